/-! rows for constructors: worlds that grow -/
theorem tg_cls {D : tg_D} {s : State} {cA : ClassId} {ty : FieldType} (t0 : Nat) (hK : va_K D.1 tg_cl (tg_TY D ++ [(cA, ty)]) s) (ht : (tg_TY D)[t0]? = some (D.2 t0, ty)) (hp : ∀ C, ty ≠ .object C) : cA = D.2 t0 := by
  have h1 := (hK.2 4 (cA, ty) rfl).2
  have h2 : va_RA s (D.2 t0) ty := by
    have hlt : t0 < (tg_TY D).length := (List.getElem?_eq_some_iff.mp ht).1
    exact (hK.2 t0 (D.2 t0, ty) (by rw [List.getElem?_append_left hlt]; exact ht)).2
  cases ty with
  | object C => exact absurd rfl (hp C)
  | _ => exact Option.some.inj (h1.symm.trans h2)
theorem tg_clsO {D : tg_D} {s : State} {cA : ClassId} {C : String} (t0 : Nat) (hK : va_K D.1 tg_cl (tg_TY D ++ [(cA, .object C)]) s) (ht : (tg_TY D)[t0]? = some (D.2 t0, .object C)) : cA = D.2 t0 := by
  obtain ⟨_, _, _, _, _, h1⟩ := (hK.2 4 (cA, .object C) rfl).2
  have hlt : t0 < (tg_TY D).length := (List.getElem?_eq_some_iff.mp ht).1
  obtain ⟨_, _, _, _, _, h2⟩ := (hK.2 t0 (D.2 t0, .object C) (by rw [List.getElem?_append_left hlt]; exact ht)).2
  exact Option.some.inj (h1.symm.trans h2)
section TGN
variable {X : tg_X} {D : tg_D} {nL k n : Nat} {ws ws' wc wr : va_W} {lv lv' : List (Nat × Value)} {pc : Nat} {st rest As : List Value} {cc bytes : ByteArray} {own Cn : String} {F L kc ns maxL np ix b ci f2 l2 : Nat} {y : MethodName} {fs : List Value}
theorem tg_perm (is : List Nat) (hs : is.map (fun i => ws[i]?) = ws'.map some) (hn : va_nd is = true) (kk : tg_G X D nL k n ws' lv pc st) : tg_G X D nL k n ws lv pc st := fun H locs ls hZ hP hD hl => kk H locs ls hZ (fun j q hq => by obtain ⟨i, -, g2⟩ := tg_pick hs hq; exact hP i q g2) (hD.sub is hn hs) hl
theorem tg_oinit (C : tg_C X D nL cc own F L kc ns) {a : Nat} (hm : Cond.methodLink own ix objectInit ∈ tg_tbl) (h1 : Cond.instanceMethod objectInit ∈ tg_tbl) (h2 : Cond.code objectInit ⟨#[0xb1]⟩ 1 none ∈ tg_tbl) (hF : 1 ≤ F ∧ (st.map fun v => v.category).sum + 12 ≤ L) (hdg : decode cc pc = .ok (.invokespecial ix, 3)) (kk : tg_G X D nL k n ws lv (pc + 3) st) : tg_G X D nL k n ws lv pc (.ref a :: st) := by
  intro H locs ls hZ hP hD hl
  obtain ⟨cx, cb, cm, co, ct, ck, cF, cL, -, -⟩ := C
  exact W.objInit cx cb co (ct _ hm) (ct _ h1) (ct _ h2) rfl (by show ls.size = _; rw [cm]; exact hl.1) rfl hdg (Nat.le_trans hF.1 cF) (by show 2 * 0 + _ + _ ≤ _; have := Nat.le_trans hF.2 cL; omega) (kk H locs ls hZ hP hD hl)
theorem tg_new (C : tg_C X D nL cc own F L kc ns) (V : tg_V X) (hA : ∀ q, (tg_s X).heap.size ≤ q → tg_A X q) {N : Nat} {T : u_T} {ty : Nat → FieldType} (cf : tg_F ci Cn T N ty) (h1 : Cond.classLink own ix Cn ∈ tg_tbl) (h2 : Cond.instantiable Cn N ∈ tg_tbl) (h3 : Cond.initialized Cn ∈ tg_tbl) (hfs : ∀ j, j < N → defaultValue (ty j) = vp_V fs j) (hR : k + 1 ≤ kc ∧ n + N ≤ ns) (hdg : decode cc pc = .ok (.new ix, 3)) (kk : ∀ q : Nat, tg_G X D nL (k + 1) (n + N) (ws ++ [(q, .inr (ci, fs))]) lv (pc + 3) (.ref q :: st)) : tg_G X D nL k n ws lv pc st := by
  intro H locs ls hZ hP hD hl
  rw [V] at hZ
  obtain ⟨cx, cb, cm, co, ct, ck, cF, cL, cK, cN⟩ := C
  exact va_new cx cb ct cf.2.1 ty cf.2.2.1 co (ct _ h1) (ct _ h2) (ct _ h3) ck hP hD hZ hA cf.1 hfs (Nat.le_trans hR.1 cK) (Nat.le_trans hR.2 cN) hdg (fun q H1 hP1 hD1 hS1 => kk q H1 locs ls (by rw [V]; exact hS1) hP1 hD1 hl)
theorem tg_newa (C : tg_C X D nL cc own F L kc ns) (V : tg_V X) (hA : ∀ q, (tg_s X).heap.size ≤ q → tg_A X q) {atype : ArrayType} {ty : FieldType} {z : Int32} {N : Nat} (hty : newarray.typeOf atype = ty) (h1 : Cond.arrayClass ty ∈ tg_tbl) (t0 : Nat) (ht : (tg_TY D)[t0]? = some (D.2 t0, ty)) (hp : ∀ C, ty ≠ .object C) (h0 : ∀ cA : ClassId, vp_cell cA (N, .inl (fun _ => 0)) = arrV cA N (fun _ => defaultValue ty)) (hz : ¬ z < 0) (hN : z.toNatClampNeg = N) (hB : N * componentBytes ty ≤ 536870912) (hR : k + 1 ≤ kc ∧ n + N ≤ ns) (hdg : decode cc pc = .ok (.newarray atype, 2)) (kk : ∀ q : Nat, tg_G X D nL (k + 1) (n + N) (ws ++ [(q, .inl (D.2 t0, N, .inl (fun _ => 0)))]) lv (pc + 2) (.ref q :: st)) : tg_G X D nL k n ws lv pc (.int z :: st) := by
  intro H locs ls hZ hP hD hl
  rw [V] at hZ
  obtain ⟨cx, cb, cm, co, ct, ck, cF, cL, cK, cN⟩ := C
  exact va_newa cx cb (by rw [hty]; exact ct _ h1) hty ck hP hD hZ hA h0 hz hN hB (Nat.le_trans hR.1 cK) (Nat.le_trans hR.2 cN) hdg (fun q cA H1 hK1 hP1 hD1 hS1 => by
    have e := tg_cls t0 hK1 ht hp
    subst e
    exact kk q H1 locs ls (by rw [V]; exact hS1) hP1 hD1 hl)
theorem tg_newq (C : tg_C X D nL cc own F L kc ns) (V : tg_V X) (hA : ∀ q, (tg_s X).heap.size ≤ q → tg_A X q) {z : Int32} {N : Nat} (h1 : Cond.classLink own ix "TideDice$Course" ∈ tg_tbl) (h2 : Cond.arrayOver (.object "TideDice$Course") ∈ tg_tbl) (hz : ¬ z < 0) (hN : z.toNatClampNeg = N) (hB : N * 4 ≤ 536870912) (hR : k + 1 ≤ kc ∧ n + N ≤ ns) (hdg : decode cc pc = .ok (.anewarray ix, 3)) (kk : ∀ q : Nat, tg_G X D nL (k + 1) (n + N) (ws ++ [(q, .inl (D.2 3, N, .inr (.inr (.inr (.inr (fun _ => none))))))]) lv (pc + 3) (.ref q :: st)) : tg_G X D nL k n ws lv pc (.int z :: st) := by
  intro H locs ls hZ hP hD hl
  rw [V] at hZ
  obtain ⟨cx, cb, cm, co, ct, ck, cF, cL, cK, cN⟩ := C
  exact va_newq cx cb co (ct _ h1) (va_AO.of (ct _ h2)) ck hP hD hZ hA hz hN hB (Nat.le_trans hR.1 cK) (Nat.le_trans hR.2 cN) hdg (fun q cA H1 hK1 hP1 hD1 hS1 => by
    have e := tg_clsO 3 hK1 rfl
    subst e
    exact kk q H1 locs ls (by rw [V]; exact hS1) hP1 hD1 hl)
theorem tg_aast (C : tg_C X D nL cc own F L kc ns) (V : tg_V X) {a v len : Nat} {cA : ClassId} {f g : Nat → Option Nat} {vs : List Value} {i : Int32} (q0 qk : Nat) (ha : ws[q0]? = some (a, .inl (cA, len, .inr (.inr (.inr (.inr f)))))) (ht : (tg_TY D)[3]? = some (cA, .object "TideDice$Course")) (hv : ws[qk]? = some (v, .inr (1, vs))) (hin : vp_in i len) (hg : va_up f i.toNatClampNeg (some v) = g) (hw : ws.set q0 (a, .inl (cA, len, .inr (.inr (.inr (.inr g))))) = ws') (hdg : decode cc pc = .ok (.aastore, 1)) (kk : tg_G X D nL k n ws' lv (pc + 1) st) : tg_G X D nL k n ws lv pc (.ref v :: .int i :: .ref a :: st) := by
  subst hw; subst hg
  intro H locs ls hZ hP hD hl
  rw [V] at hZ
  exact va_astq (r := (RX1, TX1, 4)) C.1 C.2.1 C.2.2.2.2.2.1 hP hD hZ q0 3 qk 1 ha ht hv rfl hin hdg (fun H1 locs1 hP1 hD1 hS1 => kk H1 locs1 ls (by rw [V]; exact hS1) hP1 hD1 hl)
/-- a constructor's start and end -/
def tg_PreN (D : tg_D) (ws : va_W) (sz : Nat) (av : List Value) : Array Value → State → Prop := fun v U => tg_Pre D ws av v U ∧ U.heap.size = sz
theorem tg_PreN.blind {sz : Nat} {av : List Value} : FrameBlind (tg_PreN D ws sz av) := fun a U g mk h => ⟨tg_Pre.blind a U g mk h.1, h.2⟩
def tg_QN (P : va_W → Prop) (D : tg_D) (A : Nat → Prop) : Array Value → State → Outcome → State → Prop := fun _ st oc t => oc = .returned none ∧ (∃ w1, P w1 ∧ va_P D.1 tg_cl w1 t.heap ∧ va_D A w1) ∧ va_F A st t
def tg_EN (X : tg_X) (D : tg_D) (k n : Nat) (cc : ByteArray) (P : va_W → Prop) : Prop := ∀ (ws : va_W), P ws → tg_Ev X D k n cc ws
abbrev tg_rmN (F L kc ns : Nat) : Room := { frames := F, cells := kc, slots := ns, locals := L }
theorem tg_metN {l : Launch} {sz : Nat} {av : List Value} {P : va_W → Prop} (hy : plainName y.cls = true) (hy1 : y.name = "<init>") (hfit : (lg_sl av).length ≤ maxL)
    (walk : ∀ X : tg_X, tg_l X = l → tg_C X D maxL cc y.cls F L kc ns → tg_V X → (∀ q, (tg_s X).heap.size ≤ q → tg_A X q) → (tg_h X).name = "<init>" → tg_EN X D kc ns cc P → tg_G X D maxL 0 0 ws (lv_args 0 av) 0 []) : Met l y [Cond.code y cc maxL none] (tg_rmN F L kc ns) (tg_PreN D ws sz av) (tg_QN P D (va_A ws sz)) kc ns (va_A ws sz) := by
  refine Met.ofW (cc := cc) (maxL := maxL) (ret := none) hy rfl ?_
  intro p e s m args below meth c s₁ B hml hv
  obtain ⟨⟨rfl, hP, hD, hK, hT⟩, rfl⟩ := hv
  have hl := lv_entry av (n := maxL) hfit
  rw [lg_entry_eq]
  exact walk (p, l, e, tg_rmN F L kc ns, s, m, av.toArray, below, meth, c, MQ below (tg_QN P D (va_A ws s.heap.size)) av.toArray s kc ns (va_A ws s.heap.size), va_A ws s.heap.size, va_S (va_A ws s.heap.size) s.heap) rfl ⟨B.exec, B.bytes, hml, findClass_of_methodNamed B.named, hT, hK, Nat.le_refl _, Nat.le_refl _, Nat.le_refl _, Nat.le_refl _⟩ rfl (fun q h => Or.inr h) ((name_of_methodNamed B.named B.method).1.trans hy1)
    (fun w1 hw H locs ls pc hZ hP1 hD1 hdg => W.vret B.exec B.bytes B.returns (fun t ht _ => ⟨rfl, ⟨w1, hw, by rw [ht]; exact hP1, hD1⟩, va_S.F hZ ht⟩) (tg_eZ hZ) hdg B.notSynchronized) s.heap [] _ va_S.rf hP hD.self hl
theorem tg_vretN {P : va_W → Prop} (hE : tg_EN X D k n cc P) (hw : P ws) (hdg : decode cc pc = .ok (.return_, 1)) : tg_G X D nL k n ws lv pc [] := tg_vret (hE ws hw) hdg
/-- a constructor is called -/
theorem tg_cI {l : Launch} {mc ms : Nat} {P : va_W → Prop} (C : tg_C X D nL cc own F L kc ns) (V : tg_V X) (hA : ∀ q, (tg_s X).heap.size ≤ q → tg_A X q) (hl0 : tg_l X = l) (hM : ∀ sz, Met l y [Cond.code y bytes maxL none] (tg_rmN f2 l2 mc ms) (tg_PreN D wc sz (.ref b :: As)) (tg_QN P D (va_A wc sz)) mc ms (va_A wc sz)) (hy1 : y.name = "<init>") (hm : Cond.methodLink own ix y ∈ tg_tbl) (h1 : Cond.instanceMethod y ∈ tg_tbl) (h2 : Cond.initialized y.cls ∈ tg_tbl) (h3 : Cond.code y bytes maxL none ∈ tg_tbl) (hd : y.cls ≠ "java/lang/invoke/MethodHandle" ∧ y.cls ≠ "java/lang/invoke/VarHandle" ∧ (parseMethodDescriptor y.desc).map (fun d => d.parameters.length) = some np) (hF : f2 + 1 ≤ F ∧ 8 + (maxL + 11) + l2 ≤ L ∧ k + mc ≤ kc ∧ n + ms ≤ ns) (isC isR : List Nat) (hC : isC.map (fun i => ws[i]?) = wc.map some) (hR : isR.map (fun i => ws[i]?) = wr.map some) (hnd : va_nd isC = true) (hnr : va_nd isR = true) (hdis : ∀ i ∈ isR, i ∉ isC) (hn : As.length = np) (hst : st = As.reverse ++ .ref b :: rest) (hW : (rest.map fun v => v.category).sum ≤ 8) (hdg : decode cc pc = .ok (.invokespecial ix, 3)) (kk : ∀ w1, P w1 → tg_G X D nL (k + mc) (n + ms) (wr ++ w1) lv (pc + 3) rest) : tg_G X D nL k n ws lv pc st := by
  subst hl0
  intro H locs ls hZ hP hD hl
  rw [V] at hZ
  have hFc := va_free (wc := wc) hD hZ hA isC hC
  have hB : CallB (tg_R X) (tg_s X) (tg_a X) own ix y bytes maxL none [Cond.code y bytes maxL none] (tg_rmN f2 l2 mc ms) mc ms np := callB_of np C.2.2.2.2.1 (tg_good h3) rfl rfl rfl (C.2.2.2.2.1 _ h2) (C.2.2.2.2.1 _ hm) hd ⟨Nat.le_trans hF.1 C.2.2.2.2.2.2.1, Nat.le_trans hF.2.1 C.2.2.2.2.2.2.2.1⟩
  have hr := va_runI (b := b) (As := As) (rest := rest) (locs := locs) (cells := k) (slots := n) (e := tg_e X) (below := tg_b X) (meth := tg_h X) (H := H) (g := F0 (tg_m X) pc ls st) ⟨C.1, C.2.1, C.2.2.1, C.2.2.2.1, C.2.2.2.2.1⟩ (hM H.size) ⟨hB, hy1, C.2.2.2.2.1 _ h1⟩ ⟨tg_PreN.blind, fun U hU hW => ⟨tg_preV hP hD C isC hC hnd U hU hW, by rw [hU]⟩⟩ rfl hn hl.1 hst (lv_room hW) hdg ⟨Nat.le_trans hF.2.2.1 C.2.2.2.2.2.2.2.2.1, Nat.le_trans hF.2.2.2 C.2.2.2.2.2.2.2.2.2⟩
  intro T hT Xs
  obtain ⟨v', st₀, t, T', L, h0, X', hL, e1, -, ⟨hv, ⟨w1, hw1, hP1, hD1⟩, hz, hk⟩, stp⟩ := hr T hT Xs
  cases hv
  rw [h0] at hz hk
  obtain ⟨hPj, hDj⟩ := va_join (wr := wr) (w1 := w1) hP hD isC isR hC hR hnr hdis hk hFc hP1 hD1
  obtain ⟨t2, a1, b1⟩ := kk w1 hw1 t.heap (locs ++ L) ls (by
      rw [V]
      refine ⟨Nat.le_trans hZ.1 hz, fun q g1 g2 => ?_, fun q hq => ?_⟩
      · rw [hk q (Nat.lt_of_lt_of_le g1 hZ.1) (fun z => g2 (hFc q z))]
        exact hZ.2.1 q g1 g2
      · rcases List.mem_append.mp hq with h | h
        · exact hZ.2.2 q h
        · exact hFc _ (hL q h)) hPj hDj hl T' e1 X'
  exact ⟨t2, stp t2 a1, b1⟩
end TGN
