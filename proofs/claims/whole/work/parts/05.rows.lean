/-! the walker's own rows: one judgement tg_G over a world, a list of locals, a place and a stack; the context in one tuple -/
abbrev tg_D : Type := va_G × (Nat → ClassId)
abbrev tg_cl : List vw_C := [(RX0, TX0, 6), (RX1, TX1, 4), (RX2, TX2, 11), (RX3, TX3, 4), (RX4, TX4, 12), (RX5, TX5, 19)]
abbrev tg_TY (D : tg_D) : List (ClassId × FieldType) := [(D.2 0, .int), (D.2 1, .boolean), (D.2 2, .char), (D.2 3, .object "TideDice$Course")]
def tg_T (args : Array Value) (U : State) : Prop := ∀ w ∈ tg_tbl, w.before args U = true
theorem tg_T.warm {args a' : Array Value} {s U : State} (h : tg_T args s) (hW : s.WarmedH U.vm) : tg_T a' U := by
  intro w hw
  have h1 := h w hw
  have h2 := (List.mem_filter.mp hw).2
  unfold tg_ok at h2
  split at h2
  · exact va_Nw.use rfl (va_Nw.warmM hW (va_Nw.of rfl h1))
  · exact va_AO.use (va_AO.moved hW.alike (va_AO.of h1))
  · exact word_at hW (good_of_word h2) h1
abbrev tg_X : Type := Program × Launch × Env × Room × State × MethodId × Array Value × List Frame × Method × Code × (State → Prop) × (Nat → Prop) × (Heap → List Loc → Prop)
abbrev tg_p (X : tg_X) : Program := X.1
abbrev tg_l (X : tg_X) : Launch := X.2.1
abbrev tg_e (X : tg_X) : Env := X.2.2.1
abbrev tg_R (X : tg_X) : Room := X.2.2.2.1
abbrev tg_s (X : tg_X) : State := X.2.2.2.2.1
abbrev tg_m (X : tg_X) : MethodId := X.2.2.2.2.2.1
abbrev tg_a (X : tg_X) : Array Value := X.2.2.2.2.2.2.1
abbrev tg_b (X : tg_X) : List Frame := X.2.2.2.2.2.2.2.1
abbrev tg_h (X : tg_X) : Method := X.2.2.2.2.2.2.2.2.1
abbrev tg_c (X : tg_X) : Code := X.2.2.2.2.2.2.2.2.2.1
abbrev tg_Q (X : tg_X) : State → Prop := X.2.2.2.2.2.2.2.2.2.2.1
abbrev tg_A (X : tg_X) : Nat → Prop := X.2.2.2.2.2.2.2.2.2.2.2.1
abbrev tg_Z (X : tg_X) : Heap → List Loc → Prop := X.2.2.2.2.2.2.2.2.2.2.2.2
abbrev tg_W (X : tg_X) (H : Heap) (locs : List Loc) (k n : Nat) (g : JFrame) : Prop := W (tg_p X) (tg_l X) (tg_e X) (tg_R X) (tg_s X) (tg_m X) (tg_a X) (tg_b X) (tg_h X) (tg_c X) H locs k n (tg_Q X) g
/-- the walk: at any heap that holds the world, and any locals that hold the list -/
def tg_G (X : tg_X) (D : tg_D) (nL k n : Nat) (ws : va_W) (lv : List (Nat × Value)) (pc : Nat) (st : List Value) : Prop :=
  ∀ (H : Heap) (locs : List Loc) (ls : Array Slot), tg_Z X H locs → va_P D.1 tg_cl ws H → va_D (tg_A X) ws → lv_has ls nL lv → tg_W X H locs k n (F0 (tg_m X) pc ls st)
/-- the context: machine, code, class, words, tables, room -/
def tg_C (X : tg_X) (D : tg_D) (nL : Nat) (cc : ByteArray) (own : String) (F L kc ns : Nat) : Prop :=
  (tg_p X).tables.exec = Jvm.exec ∧ (tg_c X).code = cc ∧ (tg_c X).maxLocals = nL ∧ (tg_s X).vm.findClass own = some (tg_m X).cls ∧ tg_T (tg_a X) (tg_s X) ∧ va_K D.1 tg_cl (tg_TY D) (tg_s X) ∧ F ≤ (tg_R X).frames ∧ L ≤ (tg_R X).locals ∧ kc ≤ (tg_R X).cells ∧ ns ≤ (tg_R X).slots
/-- a writer's context: the heap is known up to the world's own cells -/
def tg_V (X : tg_X) : Prop := tg_Z X = va_S (tg_A X) (tg_s X).heap
/-- what a class's tables say -/
def tg_F (ci : Nat) (C : String) (T : u_T) (N : Nat) (ty : Nat → FieldType) : Prop := tg_cl[ci]? = some (C, T, N) ∧ (∀ w ∈ u_ws C T N, w ∈ tg_tbl) ∧ (∀ k, k < N → parseFieldDescriptor (T k).2.2.1 = some (ty k)) ∧ (∀ a, a < N → ∀ b, b < N → a ≠ b → (T a).2.1 ≠ (T b).2.1)
/-! pure words of the specifications -/
def tg_ck {β : Type} (i : Int32) (n : Nat) (k : Option β) : Option β := if i < 0 ∨ n ≤ i.toNatClampNeg then none else k
def tg_dz {β : Type} (y : Int32) (k : Option β) : Option β := if y = 0 then none else k
def tg_bz {β : Type} (v : Int32) (k : Option β) : Option β := if v = 0 ∨ v = 1 then k else none
def tg_nm {α β : Type} (x : α) (k : α → Option β) : Option β := k x
def tg_cp {β : Type} (sp dp n : Int32) (n0 n1 : Nat) (k : Option β) : Option β := if sp < 0 ∨ dp < 0 ∨ n < 0 ∨ n0 < sp.toNatClampNeg + n.toNatClampNeg ∨ n1 < dp.toNatClampNeg + n.toNatClampNeg then none else k
theorem tg_ck_e {β : Type} {i : Int32} {n : Nat} {k : Option β} {a : β} (h : tg_ck i n k = some a) : vp_in i n ∧ k = some a := by
  unfold tg_ck at h
  by_cases hc : i < 0 ∨ n ≤ i.toNatClampNeg
  · rw [if_pos hc] at h; cases h
  · rw [if_neg hc] at h; exact ⟨hc, h⟩
theorem tg_dz_e {β : Type} {y : Int32} {k : Option β} {a : β} (h : tg_dz y k = some a) : ¬ y = 0 ∧ k = some a := by
  unfold tg_dz at h
  by_cases hc : y = 0
  · rw [if_pos hc] at h; cases h
  · rw [if_neg hc] at h; exact ⟨hc, h⟩
theorem tg_nb {v : Int32} (h : v = 0 ∨ v = 1) : narrow .boolean (.int v) = .int v := by
  rcases h with rfl | rfl <;> rfl
theorem tg_bz_e {β : Type} {v : Int32} {k : Option β} {a : β} (h : tg_bz v k = some a) : narrow .boolean (.int v) = .int v ∧ k = some a := by
  unfold tg_bz at h
  by_cases hc : v = 0 ∨ v = 1
  · rw [if_pos hc] at h; exact ⟨tg_nb hc, h⟩
  · rw [if_neg hc] at h; cases h
theorem tg_nm_e {α β : Type} {x : α} {k : α → Option β} {a : β} (h : tg_nm x k = some a) : ∃ y : α, y = x ∧ k y = some a := ⟨x, rfl, h⟩
theorem tg_bd_e {α β : Type} {x : Option α} {k : α → Option β} {a : β} (h : Option.bind x k = some a) : ∃ y : α, x = some y ∧ k y = some a := by
  cases x with
  | none => cases h
  | some y => exact ⟨y, rfl, h⟩
theorem tg_cp_e {β : Type} {sp dp n : Int32} {n0 n1 : Nat} {k : Option β} {a : β} (h : tg_cp sp dp n n0 n1 k = some a) : (¬ sp < 0 ∧ ¬ dp < 0 ∧ ¬ n < 0 ∧ sp.toNatClampNeg + n.toNatClampNeg ≤ n0 ∧ dp.toNatClampNeg + n.toNatClampNeg ≤ n1) ∧ k = some a := by
  unfold tg_cp at h
  by_cases hc : sp < 0 ∨ dp < 0 ∨ n < 0 ∨ n0 < sp.toNatClampNeg + n.toNatClampNeg ∨ n1 < dp.toNatClampNeg + n.toNatClampNeg
  · rw [if_pos hc] at h; cases h
  · rw [if_neg hc] at h
    simp only [not_or, Nat.not_lt] at hc
    exact ⟨hc, h⟩
theorem tg_t {c : Prop} [Decidable c] {β : Type} {x y : Option β} {a : β} (h : c) (hs : (if c then x else y) = some a) : x = some a := by rwa [if_pos h] at hs
theorem tg_f {c : Prop} [Decidable c] {β : Type} {x y : Option β} {a : β} (h : ¬ c) (hs : (if c then x else y) = some a) : y = some a := by rwa [if_neg h] at hs
theorem tg_nf {c : Prop} [Decidable c] {β : Type} {x y : Option β} {a : β} (h : c) (hs : (if ¬ c then x else y) = some a) : y = some a := by rwa [if_neg (fun q => q h)] at hs

section TG
variable {X : tg_X} {D : tg_D} {nL k n : Nat} {ws ws' : va_W} {lv lv' : List (Nat × Value)} {pc : Nat} {st rest : List Value} {cc : ByteArray} {own : String} {F L kc ns : Nat}
theorem tg_nxt {pc' : Nat} (h : pc = pc') (kk : tg_G X D nL k n ws lv pc' st) : tg_G X D nL k n ws lv pc st := h ▸ kk
theorem tg_lsub (ks : List Nat) (h : lv_pick lv ks = lv') (kk : tg_G X D nL k n ws lv' pc st) : tg_G X D nL k n ws lv pc st := fun H locs ls hZ hP hD hl => kk H locs ls hZ hP hD (lv_sub hl ks h)
theorem tg_topi {x y : Int32} (h : y = x) (kk : tg_G X D nL k n ws lv pc (.int y :: rest)) : tg_G X D nL k n ws lv pc (.int x :: rest) := h ▸ kk
theorem tg_topl {x y : Int64} (h : y = x) (kk : tg_G X D nL k n ws lv pc (.long y :: rest)) : tg_G X D nL k n ws lv pc (.long x :: rest) := h ▸ kk
theorem tg_widen {k2 n2 : Nat} (h1 : k ≤ k2) (h2 : n ≤ n2) (kk : tg_G X D nL k2 n2 ws lv pc st) : tg_G X D nL k n ws lv pc st := fun H locs ls hZ hP hD hl => W.widen h1 h2 (kk H locs ls hZ hP hD hl)

theorem tg_iconst (C : tg_C X D nL cc own F L kc ns) {z : Int} {v : Int32} (hdg : decode cc pc = .ok (.iconst z, 1)) (hv : Int32.ofInt z = v) (kk : tg_G X D nL k n ws lv (pc + 1) (.int v :: st)) : tg_G X D nL k n ws lv pc st := fun H locs ls hZ hP hD hl => lv_iconst C.1 C.2.1 hdg hv (kk H locs ls hZ hP hD hl)
theorem tg_bipush (C : tg_C X D nL cc own F L kc ns) {z : Int} {v : Int32} (hdg : decode cc pc = .ok (.bipush z, 2)) (hv : (Int8.ofInt z).toInt32 = v) (kk : tg_G X D nL k n ws lv (pc + 2) (.int v :: st)) : tg_G X D nL k n ws lv pc st := fun H locs ls hZ hP hD hl => lv_bipush C.1 C.2.1 hdg hv (kk H locs ls hZ hP hD hl)
theorem tg_sipush (C : tg_C X D nL cc own F L kc ns) {z : Int} {v : Int32} (hdg : decode cc pc = .ok (.sipush z, 3)) (hv : (Int16.ofInt z).toInt32 = v) (kk : tg_G X D nL k n ws lv (pc + 3) (.int v :: st)) : tg_G X D nL k n ws lv pc st := fun H locs ls hZ hP hD hl => lv_sipush C.1 C.2.1 hdg hv (kk H locs ls hZ hP hD hl)
theorem tg_lconst (C : tg_C X D nL cc own F L kc ns) {z : Fin 2} {v : Int64} (hdg : decode cc pc = .ok (.lconst z, 1)) (hv : Int64.ofNat (z : Nat) = v) (kk : tg_G X D nL k n ws lv (pc + 1) (.long v :: st)) : tg_G X D nL k n ws lv pc st := fun H locs ls hZ hP hD hl => lv_lconst C.1 C.2.1 hdg hv (kk H locs ls hZ hP hD hl)
theorem tg_ldc (C : tg_C X D nL cc own F L kc ns) {ix : Nat} {v : Int32} (hm : Cond.constant own ix v ∈ tg_tbl) (hdg : decode cc pc = .ok (.ldc ix, 2)) (kk : tg_G X D nL k n ws lv (pc + 2) (.int v :: st)) : tg_G X D nL k n ws lv pc st := fun H locs ls hZ hP hD hl => lv_ldc C.1 C.2.1 C.2.2.2.1 (C.2.2.2.2.1 _ hm) hdg (kk H locs ls hZ hP hD hl)
theorem tg_ldcw (C : tg_C X D nL cc own F L kc ns) {ix : Nat} {v : Int32} (hm : Cond.constant own ix v ∈ tg_tbl) (hdg : decode cc pc = .ok (.ldc_w ix, 3)) (kk : tg_G X D nL k n ws lv (pc + 3) (.int v :: st)) : tg_G X D nL k n ws lv pc st := fun H locs ls hZ hP hD hl => lv_ldcw C.1 C.2.1 C.2.2.2.1 (C.2.2.2.2.1 _ hm) hdg (kk H locs ls hZ hP hD hl)
theorem tg_ldc2 (C : tg_C X D nL cc own F L kc ns) {ix : Nat} {v : Int64} (hm : Cond.constantLong own ix v ∈ tg_tbl) (hdg : decode cc pc = .ok (.ldc2_w ix, 3)) (kk : tg_G X D nL k n ws lv (pc + 3) (.long v :: st)) : tg_G X D nL k n ws lv pc st := fun H locs ls hZ hP hD hl => lv_ldc2 C.1 C.2.1 C.2.2.2.1 (C.2.2.2.2.1 _ hm) hdg (kk H locs ls hZ hP hD hl)
theorem tg_iload_n (C : tg_C X D nL cc own F L kc ns) {z : Fin 4} {i : Nat} {x : Int32} (hdg : decode cc pc = .ok (.iload_n z, 1)) (hi : (z : Nat) = i) (j : Nat) (hj : lv[j]? = some (i, .int x)) (kk : tg_G X D nL k n ws lv (pc + 1) (.int x :: st)) : tg_G X D nL k n ws lv pc st := fun H locs ls hZ hP hD hl => lv_iload_n C.1 C.2.1 hdg hi (lv_at hl j hj) (kk H locs ls hZ hP hD hl)
theorem tg_iload (C : tg_C X D nL cc own F L kc ns) {i : Nat} {x : Int32} (hdg : decode cc pc = .ok (.iload i, 2)) (j : Nat) (hj : lv[j]? = some (i, .int x)) (kk : tg_G X D nL k n ws lv (pc + 2) (.int x :: st)) : tg_G X D nL k n ws lv pc st := fun H locs ls hZ hP hD hl => lv_iload C.1 C.2.1 hdg (lv_at hl j hj) (kk H locs ls hZ hP hD hl)
theorem tg_lload_n (C : tg_C X D nL cc own F L kc ns) {z : Fin 4} {i : Nat} {x : Int64} (hdg : decode cc pc = .ok (.lload_n z, 1)) (hi : (z : Nat) = i) (j : Nat) (hj : lv[j]? = some (i, .long x)) (kk : tg_G X D nL k n ws lv (pc + 1) (.long x :: st)) : tg_G X D nL k n ws lv pc st := fun H locs ls hZ hP hD hl => lv_lload_n C.1 C.2.1 hdg hi (lv_at hl j hj) (kk H locs ls hZ hP hD hl)
theorem tg_lload (C : tg_C X D nL cc own F L kc ns) {i : Nat} {x : Int64} (hdg : decode cc pc = .ok (.lload i, 2)) (j : Nat) (hj : lv[j]? = some (i, .long x)) (kk : tg_G X D nL k n ws lv (pc + 2) (.long x :: st)) : tg_G X D nL k n ws lv pc st := fun H locs ls hZ hP hD hl => lv_lload C.1 C.2.1 hdg (lv_at hl j hj) (kk H locs ls hZ hP hD hl)
theorem tg_aload_n (C : tg_C X D nL cc own F L kc ns) {z : Fin 4} {i : Nat} {x : Nat} (hdg : decode cc pc = .ok (.aload_n z, 1)) (hi : (z : Nat) = i) (j : Nat) (hj : lv[j]? = some (i, .ref x)) (kk : tg_G X D nL k n ws lv (pc + 1) (.ref x :: st)) : tg_G X D nL k n ws lv pc st := fun H locs ls hZ hP hD hl => lv_aload_n C.1 C.2.1 hdg hi (lv_at hl j hj) (kk H locs ls hZ hP hD hl)
theorem tg_aload (C : tg_C X D nL cc own F L kc ns) {i : Nat} {x : Nat} (hdg : decode cc pc = .ok (.aload i, 2)) (j : Nat) (hj : lv[j]? = some (i, .ref x)) (kk : tg_G X D nL k n ws lv (pc + 2) (.ref x :: st)) : tg_G X D nL k n ws lv pc st := fun H locs ls hZ hP hD hl => lv_aload C.1 C.2.1 hdg (lv_at hl j hj) (kk H locs ls hZ hP hD hl)
theorem tg_istore_n (C : tg_C X D nL cc own F L kc ns) {z : Fin 4} {i : Nat} {x : Int32} (hdg : decode cc pc = .ok (.istore_n z, 1)) (hi : (z : Nat) = i) (hn : i < nL) (hv : (i, Value.int x) :: lv.filter (fun q => !(q.1 == i) && !(q.1 + 1 == i && q.2.category == 2)) = lv') (kk : tg_G X D nL k n ws lv' (pc + 1) st) : tg_G X D nL k n ws lv pc (.int x :: st) := fun H locs ls hZ hP hD hl => lv_istore_n C.1 C.2.1 hdg hi hl hn hv (fun ls' hl' => kk H locs ls' hZ hP hD hl')
theorem tg_istore (C : tg_C X D nL cc own F L kc ns) {i : Nat} {x : Int32} (hdg : decode cc pc = .ok (.istore i, 2)) (hn : i < nL) (hv : (i, Value.int x) :: lv.filter (fun q => !(q.1 == i) && !(q.1 + 1 == i && q.2.category == 2)) = lv') (kk : tg_G X D nL k n ws lv' (pc + 2) st) : tg_G X D nL k n ws lv pc (.int x :: st) := fun H locs ls hZ hP hD hl => lv_istore C.1 C.2.1 hdg hl hn hv (fun ls' hl' => kk H locs ls' hZ hP hD hl')
theorem tg_astore_n (C : tg_C X D nL cc own F L kc ns) {z : Fin 4} {i : Nat} {x : Nat} (hdg : decode cc pc = .ok (.astore_n z, 1)) (hi : (z : Nat) = i) (hn : i < nL) (hv : (i, Value.ref x) :: lv.filter (fun q => !(q.1 == i) && !(q.1 + 1 == i && q.2.category == 2)) = lv') (kk : tg_G X D nL k n ws lv' (pc + 1) st) : tg_G X D nL k n ws lv pc (.ref x :: st) := fun H locs ls hZ hP hD hl => lv_astore_n C.1 C.2.1 hdg hi hl hn hv (fun ls' hl' => kk H locs ls' hZ hP hD hl')
theorem tg_astore (C : tg_C X D nL cc own F L kc ns) {i : Nat} {x : Nat} (hdg : decode cc pc = .ok (.astore i, 2)) (hn : i < nL) (hv : (i, Value.ref x) :: lv.filter (fun q => !(q.1 == i) && !(q.1 + 1 == i && q.2.category == 2)) = lv') (kk : tg_G X D nL k n ws lv' (pc + 2) st) : tg_G X D nL k n ws lv pc (.ref x :: st) := fun H locs ls hZ hP hD hl => lv_astore C.1 C.2.1 hdg hl hn hv (fun ls' hl' => kk H locs ls' hZ hP hD hl')
theorem tg_iinc (C : tg_C X D nL cc own F L kc ns) {i : Nat} {z : Int} {x v : Int32} (hdg : decode cc pc = .ok (.iinc i z, 3)) (j : Nat) (hj : lv[j]? = some (i, .int x)) (hv : x + Int32.ofInt z = v) (hn : i < nL) (hw : (i, Value.int v) :: lv.filter (fun q => !(q.1 == i) && !(q.1 + 1 == i && q.2.category == 2)) = lv') (kk : tg_G X D nL k n ws lv' (pc + 3) st) : tg_G X D nL k n ws lv pc st := fun H locs ls hZ hP hD hl => lv_iinc C.1 C.2.1 hdg hl hj hv hn hw (fun ls' hl' => kk H locs ls' hZ hP hD hl')
theorem tg_iadd (C : tg_C X D nL cc own F L kc ns) {x y : Int32} (hdg : decode cc pc = .ok (.iadd, 1)) (kk : tg_G X D nL k n ws lv (pc + 1) (.int (x + y) :: st)) : tg_G X D nL k n ws lv pc (.int y :: .int x :: st) := fun H locs ls hZ hP hD hl => lv_iadd C.1 C.2.1 hdg (kk H locs ls hZ hP hD hl)
theorem tg_isub (C : tg_C X D nL cc own F L kc ns) {x y : Int32} (hdg : decode cc pc = .ok (.isub, 1)) (kk : tg_G X D nL k n ws lv (pc + 1) (.int (x - y) :: st)) : tg_G X D nL k n ws lv pc (.int y :: .int x :: st) := fun H locs ls hZ hP hD hl => lv_isub C.1 C.2.1 hdg (kk H locs ls hZ hP hD hl)
theorem tg_imul (C : tg_C X D nL cc own F L kc ns) {x y : Int32} (hdg : decode cc pc = .ok (.imul, 1)) (kk : tg_G X D nL k n ws lv (pc + 1) (.int (x * y) :: st)) : tg_G X D nL k n ws lv pc (.int y :: .int x :: st) := fun H locs ls hZ hP hD hl => lv_imul C.1 C.2.1 hdg (kk H locs ls hZ hP hD hl)
theorem tg_iand (C : tg_C X D nL cc own F L kc ns) {x y : Int32} (hdg : decode cc pc = .ok (.iand, 1)) (kk : tg_G X D nL k n ws lv (pc + 1) (.int (x &&& y) :: st)) : tg_G X D nL k n ws lv pc (.int y :: .int x :: st) := fun H locs ls hZ hP hD hl => lv_iand C.1 C.2.1 hdg (kk H locs ls hZ hP hD hl)
theorem tg_ior (C : tg_C X D nL cc own F L kc ns) {x y : Int32} (hdg : decode cc pc = .ok (.ior, 1)) (kk : tg_G X D nL k n ws lv (pc + 1) (.int (x ||| y) :: st)) : tg_G X D nL k n ws lv pc (.int y :: .int x :: st) := fun H locs ls hZ hP hD hl => lv_ior C.1 C.2.1 hdg (kk H locs ls hZ hP hD hl)
theorem tg_ixor (C : tg_C X D nL cc own F L kc ns) {x y : Int32} (hdg : decode cc pc = .ok (.ixor, 1)) (kk : tg_G X D nL k n ws lv (pc + 1) (.int (x ^^^ y) :: st)) : tg_G X D nL k n ws lv pc (.int y :: .int x :: st) := fun H locs ls hZ hP hD hl => lv_ixor C.1 C.2.1 hdg (kk H locs ls hZ hP hD hl)
theorem tg_ishl (C : tg_C X D nL cc own F L kc ns) {x y : Int32} (hdg : decode cc pc = .ok (.ishl, 1)) (kk : tg_G X D nL k n ws lv (pc + 1) (.int (x <<< (y &&& 31)) :: st)) : tg_G X D nL k n ws lv pc (.int y :: .int x :: st) := fun H locs ls hZ hP hD hl => lv_ishl C.1 C.2.1 hdg (kk H locs ls hZ hP hD hl)
theorem tg_ishr (C : tg_C X D nL cc own F L kc ns) {x y : Int32} (hdg : decode cc pc = .ok (.ishr, 1)) (kk : tg_G X D nL k n ws lv (pc + 1) (.int (x >>> (y &&& 31)) :: st)) : tg_G X D nL k n ws lv pc (.int y :: .int x :: st) := fun H locs ls hZ hP hD hl => lv_ishr C.1 C.2.1 hdg (kk H locs ls hZ hP hD hl)
theorem tg_iushr (C : tg_C X D nL cc own F L kc ns) {x y : Int32} (hdg : decode cc pc = .ok (.iushr, 1)) (kk : tg_G X D nL k n ws lv (pc + 1) (.int (x.toUInt32 >>> (y.toUInt32 &&& Int32.toUInt32 31)).toInt32 :: st)) : tg_G X D nL k n ws lv pc (.int y :: .int x :: st) := fun H locs ls hZ hP hD hl => lv_iushr C.1 C.2.1 hdg rfl (kk H locs ls hZ hP hD hl)
theorem tg_idiv (C : tg_C X D nL cc own F L kc ns) {x y : Int32} (hne : ¬ y = 0) (hdg : decode cc pc = .ok (.idiv, 1)) (kk : tg_G X D nL k n ws lv (pc + 1) (.int (x / y) :: st)) : tg_G X D nL k n ws lv pc (.int y :: .int x :: st) := fun H locs ls hZ hP hD hl => lv_idiv C.1 C.2.1 hdg hne (kk H locs ls hZ hP hD hl)
theorem tg_irem (C : tg_C X D nL cc own F L kc ns) {x y : Int32} (hne : ¬ y = 0) (hdg : decode cc pc = .ok (.irem, 1)) (kk : tg_G X D nL k n ws lv (pc + 1) (.int (x - x / y * y) :: st)) : tg_G X D nL k n ws lv pc (.int y :: .int x :: st) := fun H locs ls hZ hP hD hl => lv_irem C.1 C.2.1 hdg hne (kk H locs ls hZ hP hD hl)
theorem tg_ineg (C : tg_C X D nL cc own F L kc ns) {x : Int32} (hdg : decode cc pc = .ok (.ineg, 1)) (kk : tg_G X D nL k n ws lv (pc + 1) (.int (-x) :: st)) : tg_G X D nL k n ws lv pc (.int x :: st) := fun H locs ls hZ hP hD hl => lv_ineg C.1 C.2.1 hdg (kk H locs ls hZ hP hD hl)
theorem tg_ladd (C : tg_C X D nL cc own F L kc ns) {x y : Int64} (hdg : decode cc pc = .ok (.ladd, 1)) (kk : tg_G X D nL k n ws lv (pc + 1) (.long (x + y) :: st)) : tg_G X D nL k n ws lv pc (.long y :: .long x :: st) := fun H locs ls hZ hP hD hl => lv_ladd C.1 C.2.1 hdg (kk H locs ls hZ hP hD hl)
theorem tg_lcmp (C : tg_C X D nL cc own F L kc ns) {x y : Int64} (hdg : decode cc pc = .ok (.lcmp, 1)) (kk : tg_G X D nL k n ws lv (pc + 1) (.int (lg_cmp x y) :: st)) : tg_G X D nL k n ws lv pc (.long y :: .long x :: st) := fun H locs ls hZ hP hD hl => W.lcmp C.1 C.2.1 hdg (kk H locs ls hZ hP hD hl)
theorem tg_i2l (C : tg_C X D nL cc own F L kc ns) {x : Int32} (hdg : decode cc pc = .ok (.i2l, 1)) (kk : tg_G X D nL k n ws lv (pc + 1) (.long x.toInt64 :: st)) : tg_G X D nL k n ws lv pc (.int x :: st) := fun H locs ls hZ hP hD hl => lv_i2l C.1 C.2.1 hdg rfl (kk H locs ls hZ hP hD hl)
theorem tg_i2c (C : tg_C X D nL cc own F L kc ns) {x : Int32} (hdg : decode cc pc = .ok (.i2c, 1)) (kk : tg_G X D nL k n ws lv (pc + 1) (.int (x.toUInt32 % 65536).toInt32 :: st)) : tg_G X D nL k n ws lv pc (.int x :: st) := fun H locs ls hZ hP hD hl => lv_i2c C.1 C.2.1 hdg rfl (kk H locs ls hZ hP hD hl)
theorem tg_dup (C : tg_C X D nL cc own F L kc ns) {v : Value} (hdg : decode cc pc = .ok (.dup, 1)) (hv : v.category = 1) (kk : tg_G X D nL k n ws lv (pc + 1) (v :: v :: st)) : tg_G X D nL k n ws lv pc (v :: st) := fun H locs ls hZ hP hD hl => lv_dup C.1 C.2.1 hdg hv (kk H locs ls hZ hP hD hl)
theorem tg_dup2 (C : tg_C X D nL cc own F L kc ns) {v u : Value} (hdg : decode cc pc = .ok (.dup2, 1)) (hv : v.category = 1) (hu : u.category = 1) (kk : tg_G X D nL k n ws lv (pc + 1) (v :: u :: v :: u :: st)) : tg_G X D nL k n ws lv pc (v :: u :: st) := fun H locs ls hZ hP hD hl => lv_dup2_11 C.1 C.2.1 hdg hv hu (kk H locs ls hZ hP hD hl)
theorem tg_goto (C : tg_C X D nL cc own F L kc ns) {off : Int} {tgt : Nat} (hdg : decode cc pc = .ok (.goto off, 3)) (ht : (pc : Int) + off = (tgt : Int)) (kk : tg_G X D nL k n ws lv tgt st) : tg_G X D nL k n ws lv pc st := fun H locs ls hZ hP hD hl => lv_goto C.1 C.2.1 hdg ht (kk H locs ls hZ hP hD hl)
theorem tg_if_eq (C : tg_C X D nL cc own F L kc ns) {x : Int32} {off : Int} {tgt : Nat} (hdg : decode cc pc = .ok (.ifCond .eq off, 3)) (ht : (pc : Int) + off = (tgt : Int)) (kt : x = 0 → tg_G X D nL k n ws lv tgt st) (kf : ¬ x = 0 → tg_G X D nL k n ws lv (pc + 3) st) : tg_G X D nL k n ws lv pc (.int x :: st) := fun H locs ls hZ hP hD hl => lv_if_eq C.1 C.2.1 hdg ht (fun h => kt h H locs ls hZ hP hD hl) (fun h => kf h H locs ls hZ hP hD hl)
theorem tg_icmp_eq (C : tg_C X D nL cc own F L kc ns) {x y : Int32} {off : Int} {tgt : Nat} (hdg : decode cc pc = .ok (.if_icmp .eq off, 3)) (ht : (pc : Int) + off = (tgt : Int)) (kt : x = y → tg_G X D nL k n ws lv tgt st) (kf : ¬ x = y → tg_G X D nL k n ws lv (pc + 3) st) : tg_G X D nL k n ws lv pc (.int y :: .int x :: st) := fun H locs ls hZ hP hD hl => lv_icmp_eq C.1 C.2.1 hdg ht (fun h => kt h H locs ls hZ hP hD hl) (fun h => kf h H locs ls hZ hP hD hl)
theorem tg_if_ne (C : tg_C X D nL cc own F L kc ns) {x : Int32} {off : Int} {tgt : Nat} (hdg : decode cc pc = .ok (.ifCond .ne off, 3)) (ht : (pc : Int) + off = (tgt : Int)) (kt : ¬ x = 0 → tg_G X D nL k n ws lv tgt st) (kf : x = 0 → tg_G X D nL k n ws lv (pc + 3) st) : tg_G X D nL k n ws lv pc (.int x :: st) := fun H locs ls hZ hP hD hl => lv_if_ne C.1 C.2.1 hdg ht (fun h => kt h H locs ls hZ hP hD hl) (fun h => kf h H locs ls hZ hP hD hl)
theorem tg_icmp_ne (C : tg_C X D nL cc own F L kc ns) {x y : Int32} {off : Int} {tgt : Nat} (hdg : decode cc pc = .ok (.if_icmp .ne off, 3)) (ht : (pc : Int) + off = (tgt : Int)) (kt : ¬ x = y → tg_G X D nL k n ws lv tgt st) (kf : x = y → tg_G X D nL k n ws lv (pc + 3) st) : tg_G X D nL k n ws lv pc (.int y :: .int x :: st) := fun H locs ls hZ hP hD hl => lv_icmp_ne C.1 C.2.1 hdg ht (fun h => kt h H locs ls hZ hP hD hl) (fun h => kf h H locs ls hZ hP hD hl)
theorem tg_if_lt (C : tg_C X D nL cc own F L kc ns) {x : Int32} {off : Int} {tgt : Nat} (hdg : decode cc pc = .ok (.ifCond .lt off, 3)) (ht : (pc : Int) + off = (tgt : Int)) (kt : x < 0 → tg_G X D nL k n ws lv tgt st) (kf : ¬ x < 0 → tg_G X D nL k n ws lv (pc + 3) st) : tg_G X D nL k n ws lv pc (.int x :: st) := fun H locs ls hZ hP hD hl => lv_if_lt C.1 C.2.1 hdg ht (fun h => kt h H locs ls hZ hP hD hl) (fun h => kf h H locs ls hZ hP hD hl)
theorem tg_icmp_lt (C : tg_C X D nL cc own F L kc ns) {x y : Int32} {off : Int} {tgt : Nat} (hdg : decode cc pc = .ok (.if_icmp .lt off, 3)) (ht : (pc : Int) + off = (tgt : Int)) (kt : x < y → tg_G X D nL k n ws lv tgt st) (kf : ¬ x < y → tg_G X D nL k n ws lv (pc + 3) st) : tg_G X D nL k n ws lv pc (.int y :: .int x :: st) := fun H locs ls hZ hP hD hl => lv_icmp_lt C.1 C.2.1 hdg ht (fun h => kt h H locs ls hZ hP hD hl) (fun h => kf h H locs ls hZ hP hD hl)
theorem tg_if_ge (C : tg_C X D nL cc own F L kc ns) {x : Int32} {off : Int} {tgt : Nat} (hdg : decode cc pc = .ok (.ifCond .ge off, 3)) (ht : (pc : Int) + off = (tgt : Int)) (kt : 0 ≤ x → tg_G X D nL k n ws lv tgt st) (kf : ¬ 0 ≤ x → tg_G X D nL k n ws lv (pc + 3) st) : tg_G X D nL k n ws lv pc (.int x :: st) := fun H locs ls hZ hP hD hl => lv_if_ge C.1 C.2.1 hdg ht (fun h => kt h H locs ls hZ hP hD hl) (fun h => kf h H locs ls hZ hP hD hl)
theorem tg_icmp_ge (C : tg_C X D nL cc own F L kc ns) {x y : Int32} {off : Int} {tgt : Nat} (hdg : decode cc pc = .ok (.if_icmp .ge off, 3)) (ht : (pc : Int) + off = (tgt : Int)) (kt : y ≤ x → tg_G X D nL k n ws lv tgt st) (kf : ¬ y ≤ x → tg_G X D nL k n ws lv (pc + 3) st) : tg_G X D nL k n ws lv pc (.int y :: .int x :: st) := fun H locs ls hZ hP hD hl => lv_icmp_ge C.1 C.2.1 hdg ht (fun h => kt h H locs ls hZ hP hD hl) (fun h => kf h H locs ls hZ hP hD hl)
theorem tg_if_gt (C : tg_C X D nL cc own F L kc ns) {x : Int32} {off : Int} {tgt : Nat} (hdg : decode cc pc = .ok (.ifCond .gt off, 3)) (ht : (pc : Int) + off = (tgt : Int)) (kt : 0 < x → tg_G X D nL k n ws lv tgt st) (kf : ¬ 0 < x → tg_G X D nL k n ws lv (pc + 3) st) : tg_G X D nL k n ws lv pc (.int x :: st) := fun H locs ls hZ hP hD hl => lv_if_gt C.1 C.2.1 hdg ht (fun h => kt h H locs ls hZ hP hD hl) (fun h => kf h H locs ls hZ hP hD hl)
theorem tg_icmp_gt (C : tg_C X D nL cc own F L kc ns) {x y : Int32} {off : Int} {tgt : Nat} (hdg : decode cc pc = .ok (.if_icmp .gt off, 3)) (ht : (pc : Int) + off = (tgt : Int)) (kt : y < x → tg_G X D nL k n ws lv tgt st) (kf : ¬ y < x → tg_G X D nL k n ws lv (pc + 3) st) : tg_G X D nL k n ws lv pc (.int y :: .int x :: st) := fun H locs ls hZ hP hD hl => lv_icmp_gt C.1 C.2.1 hdg ht (fun h => kt h H locs ls hZ hP hD hl) (fun h => kf h H locs ls hZ hP hD hl)
theorem tg_if_le (C : tg_C X D nL cc own F L kc ns) {x : Int32} {off : Int} {tgt : Nat} (hdg : decode cc pc = .ok (.ifCond .le off, 3)) (ht : (pc : Int) + off = (tgt : Int)) (kt : x ≤ 0 → tg_G X D nL k n ws lv tgt st) (kf : ¬ x ≤ 0 → tg_G X D nL k n ws lv (pc + 3) st) : tg_G X D nL k n ws lv pc (.int x :: st) := fun H locs ls hZ hP hD hl => lv_if_le C.1 C.2.1 hdg ht (fun h => kt h H locs ls hZ hP hD hl) (fun h => kf h H locs ls hZ hP hD hl)
theorem tg_icmp_le (C : tg_C X D nL cc own F L kc ns) {x y : Int32} {off : Int} {tgt : Nat} (hdg : decode cc pc = .ok (.if_icmp .le off, 3)) (ht : (pc : Int) + off = (tgt : Int)) (kt : x ≤ y → tg_G X D nL k n ws lv tgt st) (kf : ¬ x ≤ y → tg_G X D nL k n ws lv (pc + 3) st) : tg_G X D nL k n ws lv pc (.int y :: .int x :: st) := fun H locs ls hZ hP hD hl => lv_icmp_le C.1 C.2.1 hdg ht (fun h => kt h H locs ls hZ hP hD hl) (fun h => kf h H locs ls hZ hP hD hl)
theorem tg_swIn (C : tg_C X D nL cc own F L kc ns) {dflt lo hi : Int} {offs : Array Int} {len : Nat} {x : Int32} {off : Int} {tgt : Nat} (v : Int32) (hx : x = v) (hdg : decode cc pc = .ok (.tableswitch dflt lo hi offs, len)) (h : ¬ v.toInt < lo ∧ ¬ hi < v.toInt ∧ offs[(v.toInt - lo).toNat]? = some off) (ht : (pc : Int) + off = (tgt : Int)) (kk : tg_G X D nL k n ws lv tgt st) : tg_G X D nL k n ws lv pc (.int x :: st) := by
  subst hx
  exact fun H locs ls hZ hP hD hl => lv_tableIn C.1 C.2.1 hdg h.1 h.2.1 h.2.2 ht (kk H locs ls hZ hP hD hl)
theorem tg_swOut (C : tg_C X D nL cc own F L kc ns) {dflt lo hi : Int} {offs : Array Int} {len : Nat} {x : Int32} {tgt : Nat} (h : x.toInt < lo ∨ hi < x.toInt) (hdg : decode cc pc = .ok (.tableswitch dflt lo hi offs, len)) (ht : (pc : Int) + dflt = (tgt : Int)) (kk : tg_G X D nL k n ws lv tgt st) : tg_G X D nL k n ws lv pc (.int x :: st) := fun H locs ls hZ hP hD hl => lv_tableOut C.1 C.2.1 hdg h ht (kk H locs ls hZ hP hD hl)
theorem tg_get (C : tg_C X D nL cc own F L kc ns) {ci N : Nat} {Cn : String} {T : u_T} {ty : Nat → FieldType} {a : Nat} {fs : List Value} {ix : Nat} {v : Value} (cf : tg_F ci Cn T N ty) (q0 : Nat) (he : ws[q0]? = some (a, .inr (ci, fs))) (f : Nat) (hf : f < N) (hm : Cond.fieldLink own ix (T f).1 (T f).2.1 (T f).2.2.1 ∈ tg_tbl) (hv : fs[f]? = some v) (hdg : decode cc pc = .ok (.getfield ix, 3)) (kk : tg_G X D nL k n ws lv (pc + 3) (v :: st)) : tg_G X D nL k n ws lv pc (.ref a :: st) := fun H locs ls hZ hP hD hl => va_get (D := D.1) (ci := ci) (v := v) (C := Cn) (T := T) (N := N) C.1 C.2.1 C.2.2.2.2.1 cf.2.1 C.2.2.2.1 C.2.2.2.2.2.1 hP q0 he cf.1 f hf (C.2.2.2.2.1 _ hm) (fun _ h9 => h9) hv hdg (kk H locs ls hZ hP hD hl)
theorem tg_put (C : tg_C X D nL cc own F L kc ns) (V : tg_V X) {ci N : Nat} {Cn : String} {T : u_T} {ty : Nat → FieldType} {a : Nat} {fs : List Value} {ix : Nat} {v : Value} (cf : tg_F ci Cn T N ty) (q0 : Nat) (he : ws[q0]? = some (a, .inr (ci, fs))) (f : Nat) (hf : f < N) (hm : Cond.fieldLink own ix (T f).1 (T f).2.1 (T f).2.2.1 ∈ tg_tbl) (hfin : (T f).2.2.2 = false) (hn : narrow (ty f) v = v) (hfit : fits (ty f) v = true) (hl9 : f < fs.length) (hw : ws.set q0 (a, .inr (ci, fs.set f v)) = ws') (hdg : decode cc pc = .ok (.putfield ix, 3)) (kk : tg_G X D nL k n ws' lv (pc + 3) st) : tg_G X D nL k n ws lv pc (v :: .ref a :: st) := by
  subst hw
  intro H locs ls hZ hP hD hl
  rw [V] at hZ
  exact va_put (D := D.1) (ci := ci) (v := v) (ty := ty f) (C := Cn) (T := T) (N := N) C.1 C.2.1 C.2.2.2.2.1 cf.2.1 ty cf.2.2.1 cf.2.2.2 C.2.2.2.1 C.2.2.2.2.2.1 hP hD hZ q0 he cf.1 f hf (C.2.2.2.2.1 _ hm) (fun _ h9 => h9) hfin (cf.2.2.1 f hf) hn hfit hl9 hdg (fun H1 locs1 hP1 hD1 hS1 => kk H1 locs1 ls (by rw [V]; exact hS1) hP1 hD1 hl)
theorem tg_putF (C : tg_C X D nL cc own F L kc ns) (V : tg_V X) (hin : (tg_h X).name = "<init>") {ci N : Nat} {Cn : String} {T : u_T} {ty : Nat → FieldType} {a : Nat} {fs : List Value} {ix : Nat} {v : Value} (cf : tg_F ci Cn T N ty) (q0 : Nat) (he : ws[q0]? = some (a, .inr (ci, fs))) (f : Nat) (hf : f < N) (hm : Cond.fieldLink own ix (T f).1 (T f).2.1 (T f).2.2.1 ∈ tg_tbl) (hfin : (T f).2.2.2 = true) (hdc : (T f).1 = own) (hn : narrow (ty f) v = v) (hfit : fits (ty f) v = true) (hl9 : f < fs.length) (hw : ws.set q0 (a, .inr (ci, fs.set f v)) = ws') (hdg : decode cc pc = .ok (.putfield ix, 3)) (kk : tg_G X D nL k n ws' lv (pc + 3) st) : tg_G X D nL k n ws lv pc (v :: .ref a :: st) := by
  subst hw
  intro H locs ls hZ hP hD hl
  rw [V] at hZ
  exact va_putF (D := D.1) (ci := ci) (v := v) (ty := ty f) (C := Cn) (T := T) (N := N) C.1 C.2.1 C.2.2.2.2.1 cf.2.1 ty cf.2.2.1 cf.2.2.2 C.2.2.2.1 C.2.2.2.2.2.1 hP hD hZ q0 he cf.1 f hf (C.2.2.2.2.1 _ hm) (fun _ h9 => h9) hfin hin hdc (cf.2.2.1 f hf) hn hfit hl9 hdg (fun H1 locs1 hP1 hD1 hS1 => kk H1 locs1 ls (by rw [V]; exact hS1) hP1 hD1 hl)
theorem tg_iald (C : tg_C X D nL cc own F L kc ns) {a : Nat} {cA : ClassId} {len : Nat} {f : Nat → Int32} {i : Int32} (q0 t0 : Nat) (ha : ws[q0]? = some (a, .inl (cA, len, .inl f))) (ht : (tg_TY D)[t0]? = some (cA, .int)) (hin : vp_in i len) (hdg : decode cc pc = .ok (.iaload, 1)) (kk : tg_G X D nL k n ws lv (pc + 1) (.int (f i.toNatClampNeg) :: st)) : tg_G X D nL k n ws lv pc (.int i :: .ref a :: st) := fun H locs ls hZ hP hD hl => va_iald C.1 C.2.1 C.2.2.2.2.2.1 hP q0 t0 ha ht hin hdg (kk H locs ls hZ hP hD hl)
theorem tg_zald (C : tg_C X D nL cc own F L kc ns) {a : Nat} {cA : ClassId} {len : Nat} {f : Nat → Int32} {i : Int32} (q0 t0 : Nat) (ha : ws[q0]? = some (a, .inl (cA, len, .inl f))) (ht : (tg_TY D)[t0]? = some (cA, .boolean)) (hin : vp_in i len) (hdg : decode cc pc = .ok (.baload, 1)) (kk : tg_G X D nL k n ws lv (pc + 1) (.int (f i.toNatClampNeg) :: st)) : tg_G X D nL k n ws lv pc (.int i :: .ref a :: st) := fun H locs ls hZ hP hD hl => va_zald C.1 C.2.1 C.2.2.2.2.2.1 hP q0 t0 ha ht hin hdg (kk H locs ls hZ hP hD hl)
theorem tg_cald (C : tg_C X D nL cc own F L kc ns) {a : Nat} {cA : ClassId} {len : Nat} {f : Nat → Int32} {i : Int32} (q0 t0 : Nat) (ha : ws[q0]? = some (a, .inl (cA, len, .inl f))) (ht : (tg_TY D)[t0]? = some (cA, .char)) (hin : vp_in i len) (hdg : decode cc pc = .ok (.caload, 1)) (kk : tg_G X D nL k n ws lv (pc + 1) (.int (f i.toNatClampNeg) :: st)) : tg_G X D nL k n ws lv pc (.int i :: .ref a :: st) := fun H locs ls hZ hP hD hl => va_cald C.1 C.2.1 C.2.2.2.2.2.1 hP q0 t0 ha ht hin hdg (kk H locs ls hZ hP hD hl)
theorem tg_iast (C : tg_C X D nL cc own F L kc ns) (V : tg_V X) {a : Nat} {cA : ClassId} {len : Nat} {f g : Nat → Int32} {i x : Int32} (q0 t0 : Nat) (ha : ws[q0]? = some (a, .inl (cA, len, .inl f))) (ht : (tg_TY D)[t0]? = some (cA, .int)) (hin : vp_in i len) (hg : g = upd f i.toNatClampNeg x) (hw : ws.set q0 (a, .inl (cA, len, .inl g)) = ws') (hdg : decode cc pc = .ok (.iastore, 1)) (kk : tg_G X D nL k n ws' lv (pc + 1) st) : tg_G X D nL k n ws lv pc (.int x :: .int i :: .ref a :: st) := by
  subst hw; subst hg
  intro H locs ls hZ hP hD hl
  rw [V] at hZ
  exact va_iast C.1 C.2.1 C.2.2.2.2.2.1 hP hD hZ q0 t0 ha ht hin hdg (fun H1 locs1 hP1 hD1 hS1 => kk H1 locs1 ls (by rw [V]; exact hS1) hP1 hD1 hl)
theorem tg_zast (C : tg_C X D nL cc own F L kc ns) (V : tg_V X) {a : Nat} {cA : ClassId} {len : Nat} {f g : Nat → Int32} {i x : Int32} (q0 t0 : Nat) (ha : ws[q0]? = some (a, .inl (cA, len, .inl f))) (ht : (tg_TY D)[t0]? = some (cA, .boolean)) (hin : vp_in i len) (hg : g = upd f i.toNatClampNeg (vp_nar .boolean x)) (hw : ws.set q0 (a, .inl (cA, len, .inl g)) = ws') (hdg : decode cc pc = .ok (.bastore, 1)) (kk : tg_G X D nL k n ws' lv (pc + 1) st) : tg_G X D nL k n ws lv pc (.int x :: .int i :: .ref a :: st) := by
  subst hw; subst hg
  intro H locs ls hZ hP hD hl
  rw [V] at hZ
  exact va_zast C.1 C.2.1 C.2.2.2.2.2.1 hP hD hZ q0 t0 ha ht hin hdg (fun H1 locs1 hP1 hD1 hS1 => kk H1 locs1 ls (by rw [V]; exact hS1) hP1 hD1 hl)
theorem tg_cast (C : tg_C X D nL cc own F L kc ns) (V : tg_V X) {a : Nat} {cA : ClassId} {len : Nat} {f g : Nat → Int32} {i x : Int32} (q0 t0 : Nat) (ha : ws[q0]? = some (a, .inl (cA, len, .inl f))) (ht : (tg_TY D)[t0]? = some (cA, .char)) (hin : vp_in i len) (hg : g = upd f i.toNatClampNeg (vp_nar .char x)) (hw : ws.set q0 (a, .inl (cA, len, .inl g)) = ws') (hdg : decode cc pc = .ok (.castore, 1)) (kk : tg_G X D nL k n ws' lv (pc + 1) st) : tg_G X D nL k n ws lv pc (.int x :: .int i :: .ref a :: st) := by
  subst hw; subst hg
  intro H locs ls hZ hP hD hl
  rw [V] at hZ
  exact va_cast C.1 C.2.1 C.2.2.2.2.2.1 hP hD hZ q0 t0 ha ht hin hdg (fun H1 locs1 hP1 hD1 hS1 => kk H1 locs1 ls (by rw [V]; exact hS1) hP1 hD1 hl)
theorem tg_alen (C : tg_C X D nL cc own F L kc ns) {a : Nat} {cA : ClassId} {x : vp_A} {ty : FieldType} {v : Int32} (q0 t0 : Nat) (ha : ws[q0]? = some (a, .inl (cA, x))) (ht : (tg_TY D)[t0]? = some (cA, ty)) (hv : Int32.ofNat x.1 = v) (hdg : decode cc pc = .ok (.arraylength, 1)) (kk : tg_G X D nL k n ws lv (pc + 1) (.int v :: st)) : tg_G X D nL k n ws lv pc (.ref a :: st) := fun H locs ls hZ hP hD hl => va_alen C.1 C.2.1 C.2.2.2.2.2.1 hP q0 t0 ha ht hv hdg (kk H locs ls hZ hP hD hl)
theorem tg_aald (C : tg_C X D nL cc own F L kc ns) {a b : Nat} {cA : ClassId} {Cn : String} {len : Nat} {f : Nat → Option Nat} {i : Int32} (q0 t0 : Nat) (ha : ws[q0]? = some (a, .inl (cA, len, .inr (.inr (.inr (.inr f)))))) (ht : (tg_TY D)[t0]? = some (cA, .object Cn)) (hin : vp_in i len) (hb : f i.toNatClampNeg = some b) (hdg : decode cc pc = .ok (.aaload, 1)) (kk : tg_G X D nL k n ws lv (pc + 1) (.ref b :: st)) : tg_G X D nL k n ws lv pc (.int i :: .ref a :: st) := fun H locs ls hZ hP hD hl => va_aldq C.1 C.2.1 C.2.2.2.2.2.1 hP q0 t0 ha ht hin hdg (by rw [hb]; exact kk H locs ls hZ hP hD hl)
theorem tg_copy (C : tg_C X D nL cc own F L kc ns) (V : tg_V X) {a a0 : Nat} {c0 c1 : ClassId} {n0 n1 : Nat} {f g g' : Nat → Int32} {sp dp len : Int32} {ix : Nat} (hm : Cond.methodLink own ix arraycopyName ∈ tg_tbl) (h1 : Cond.native arraycopyName ∈ tg_tbl) (h2 : Cond.static arraycopyName ∈ tg_tbl) (h3 : Cond.initialized "java/lang/System" ∈ tg_tbl) (q0 q1 t0 t1 : Nat) (ha0 : ws[q0]? = some (a0, .inl (c0, n0, .inl f))) (ha1 : ws[q1]? = some (a, .inl (c1, n1, .inl g))) (ht0 : (tg_TY D)[t0]? = some (c0, .int)) (ht1 : (tg_TY D)[t1]? = some (c1, .int)) (hc : ¬ sp < 0 ∧ ¬ dp < 0 ∧ ¬ len < 0 ∧ sp.toNatClampNeg + len.toNatClampNeg ≤ n0 ∧ dp.toNatClampNeg + len.toNatClampNeg ≤ n1) (hg : g' = va_cpy f g sp.toNatClampNeg dp.toNatClampNeg len.toNatClampNeg) (hw : ws.set q1 (a, .inl (c1, n1, .inl g')) = ws') (hF : 1 ≤ F ∧ (st.map fun v => v.category).sum + (nativeFrameWords "java/lang/System" "arraycopy" 5 + 11) ≤ L) (hdg : decode cc pc = .ok (.invokestatic ix, 3)) (kk : tg_G X D nL k n ws' lv (pc + 3) st) : tg_G X D nL k n ws lv pc (.int len :: .int dp :: .ref a :: .int sp :: .ref a0 :: st) := by
  subst hw; subst hg
  intro H locs ls hZ hP hD hl
  rw [V] at hZ
  obtain ⟨cx, cb, cm, co, ct, ck, cF, cL, -, -⟩ := C
  exact va_copyi cx cb (cm.trans hl.1.symm) co (ct _ hm) (ct _ h1) (ct _ h2) (ct _ h3) ck hP hD hZ q0 q1 t0 t1 ha0 ha1 ht0 ht1 rfl hc.1 hc.2.1 hc.2.2.1 hc.2.2.2.1 hc.2.2.2.2 (fun _ _ => rfl) (Nat.le_trans hF.1 cF) (Nat.le_trans hF.2 cL) hdg (fun H1 locs1 hP1 hD1 hS1 => kk H1 locs1 ls (by rw [V]; exact hS1) hP1 hD1 hl)
theorem tg_mmin (C : tg_C X D nL cc own F L kc ns) {x y : Int32} {ix : Nat} (hm : Cond.methodLink own ix Lib.Math.min.name ∈ tg_tbl) (h1 : Cond.static Lib.Math.min.name ∈ tg_tbl) (h2 : Cond.initialized "java/lang/Math" ∈ tg_tbl) (h3 : Cond.code Lib.Math.min.name Lib.Math.min.code 2 (some .int) ∈ tg_tbl) (hF : 1 ≤ F ∧ (st.map fun v => v.category).sum + 13 ≤ L ∧ k ≤ kc ∧ n ≤ ns) (hdg : decode cc pc = .ok (.invokestatic ix, 3)) (kk : tg_G X D nL k n ws lv (pc + 3) (.int (if y < x then y else x) :: st)) : tg_G X D nL k n ws lv pc (.int y :: .int x :: st) := by
  intro H locs ls hZ hP hD hl
  obtain ⟨cx, cb, cm, co, ct, ck, cF, cL, cK, cN⟩ := C
  exact va_mmin cx cb (cm.trans hl.1.symm) co (ct _ hm) (ct _ h1) (ct _ h2) (ct _ h3) (Nat.le_trans hF.1 cF) (Nat.le_trans hF.2.1 cL) (Nat.le_trans hF.2.2.1 cK) (Nat.le_trans hF.2.2.2 cN) hdg (kk H locs ls hZ hP hD hl)
theorem tg_mabs (C : tg_C X D nL cc own F L kc ns) {x : Int32} {ix : Nat} (hm : Cond.methodLink own ix Lib.Math.abs.name ∈ tg_tbl) (h1 : Cond.static Lib.Math.abs.name ∈ tg_tbl) (h2 : Cond.initialized "java/lang/Math" ∈ tg_tbl) (h3 : Cond.code Lib.Math.abs.name Lib.Math.abs.code 1 (some .int) ∈ tg_tbl) (hF : 1 ≤ F ∧ (st.map fun v => v.category).sum + 13 ≤ L ∧ k ≤ kc ∧ n ≤ ns) (hdg : decode cc pc = .ok (.invokestatic ix, 3)) (kk : tg_G X D nL k n ws lv (pc + 3) (.int (if 0 ≤ x then x else 0 - x) :: st)) : tg_G X D nL k n ws lv pc (.int x :: st) := by
  intro H locs ls hZ hP hD hl
  obtain ⟨cx, cb, cm, co, ct, ck, cF, cL, cK, cN⟩ := C
  exact va_mabs cx cb (cm.trans hl.1.symm) co (ct _ hm) (ct _ h1) (ct _ h2) (ct _ h3) (Nat.le_trans hF.1 cF) (Nat.le_trans hF.2.1 cL) (Nat.le_trans hF.2.2.1 cK) (Nat.le_trans hF.2.2.2 cN) hdg (kk H locs ls hZ hP hD hl)
/-- a method's end, by what it answers -/
def tg_Ei (X : tg_X) (D : tg_D) (k n : Nat) (cc : ByteArray) (ty : FieldType) (r : Int32) (ws : va_W) : Prop := ∀ (H : Heap) (locs : List Loc) (ls : Array Slot) (pc : Nat), tg_Z X H locs → va_P D.1 tg_cl ws H → va_D (tg_A X) ws → narrow ty (.int r) = .int r → decode cc pc = .ok (.ireturn, 1) → tg_W X H locs k n (F0 (tg_m X) pc ls [.int r])
def tg_El (X : tg_X) (D : tg_D) (k n : Nat) (cc : ByteArray) (r : Int64) (ws : va_W) : Prop := ∀ (H : Heap) (locs : List Loc) (ls : Array Slot) (pc : Nat), tg_Z X H locs → va_P D.1 tg_cl ws H → va_D (tg_A X) ws → decode cc pc = .ok (.lreturn, 1) → tg_W X H locs k n (F0 (tg_m X) pc ls [.long r])
def tg_Ev (X : tg_X) (D : tg_D) (k n : Nat) (cc : ByteArray) (ws : va_W) : Prop := ∀ (H : Heap) (locs : List Loc) (ls : Array Slot) (pc : Nat), tg_Z X H locs → va_P D.1 tg_cl ws H → va_D (tg_A X) ws → decode cc pc = .ok (.return_, 1) → tg_W X H locs k n (F0 (tg_m X) pc ls [])
theorem tg_iret {ty : FieldType} {r : Int32} (hE : tg_Ei X D k n cc ty r ws) (hn : narrow ty (.int r) = .int r) (hdg : decode cc pc = .ok (.ireturn, 1)) : tg_G X D nL k n ws lv pc [.int r] := fun H locs ls hZ hP hD _ => hE H locs ls pc hZ hP hD hn hdg
theorem tg_lret {r : Int64} (hE : tg_El X D k n cc r ws) (hdg : decode cc pc = .ok (.lreturn, 1)) : tg_G X D nL k n ws lv pc [.long r] := fun H locs ls hZ hP hD _ => hE H locs ls pc hZ hP hD hdg
theorem tg_vret (hE : tg_Ev X D k n cc ws) (hdg : decode cc pc = .ok (.return_, 1)) : tg_G X D nL k n ws lv pc [] := fun H locs ls hZ hP hD _ => hE H locs ls pc hZ hP hD hdg
end TG
/-! contracts -/
def tg_Pre (D : tg_D) (ws : va_W) (av : List Value) : Array Value → State → Prop := fun v U => v = av.toArray ∧ va_P D.1 tg_cl ws U.heap ∧ va_D (fun _ => True) ws ∧ va_K D.1 tg_cl (tg_TY D) U ∧ tg_T v U
theorem tg_Pre.blind {D : tg_D} {ws : va_W} {av : List Value} : FrameBlind (tg_Pre D ws av) := fun a U g mk h => ⟨h.1, h.2.1, h.2.2.1, va_K.moved (u := U) (U := U.calling g mk a) (Vm.Alike.refl U.vm) h.2.2.2.1, h.2.2.2.2.warm (U := U.calling g mk a) (State.WarmedH.refl U)⟩
def tg_Ad (ws : va_W) : Nat → Prop := fun q => ∃ (k : Nat) (e : va_E), ws[k]? = some (q, e)
/-- a writer's end: the answer, the world behind it, nothing else changed -/
def tg_Qe (v : Option Value) (D : tg_D) (ws' : va_W) (A : Nat → Prop) : Array Value → State → Outcome → State → Prop := fun _ st oc t => oc = .returned v ∧ va_P D.1 tg_cl ws' t.heap ∧ va_F A st t
theorem tg_self {ws : va_W} {A : Nat → Prop} (h : va_D A ws) : va_D (tg_Ad ws) ws := ⟨h.1, fun k q hk => ⟨k, q.2, hk⟩⟩
abbrev tg_rm (F L : Nat) : Room := { frames := F, cells := 0, slots := 0, locals := L }
theorem tg_metI {l : Launch} {y : MethodName} {cc : ByteArray} {maxL F L : Nat} {ty : FieldType} {D : tg_D} {ws : va_W} {av : List Value} {r : Int32} (hy : plainName y.cls = true) (hfit : (lg_sl av).length ≤ maxL)
    (walk : ∀ X : tg_X, tg_l X = l → tg_C X D maxL cc y.cls F L 0 0 → tg_Ei X D 0 0 cc ty r ws → tg_G X D maxL 0 0 ws (lv_args 0 av) 0 []) : Met l y [Cond.code y cc maxL (some ty)] (tg_rm F L) (tg_Pre D ws av) (vp_Si (fun r' => r' = r)) 0 0 (fun _ => False) := by
  refine Met.ofW (cc := cc) (maxL := maxL) (ret := some ty) hy rfl ?_
  intro p e s m args below meth c s₁ B hml hv
  obtain ⟨rfl, hP, hD, hK, hT⟩ := hv
  have hl := lv_entry av (n := maxL) hfit
  rw [lg_entry_eq]
  exact walk (p, l, e, tg_rm F L, s, m, av.toArray, below, meth, c, MQ below (vp_Si (fun r' => r' = r)) av.toArray s 0 0 (fun _ => False), fun _ => True, fun H locs => H = s.heap ∧ locs = []) rfl ⟨B.exec, B.bytes, hml, findClass_of_methodNamed B.named, hT, hK, Nat.le_refl _, Nat.le_refl _, Nat.le_refl _, Nat.le_refl _⟩
    (fun H locs ls pc hZ _ _ hn hdg => by
      obtain ⟨rfl, rfl⟩ := hZ
      show W p l e (tg_rm F L) s m av.toArray below meth c s.heap [] 0 0 (MQ below (vp_Si (fun r' => r' = r)) av.toArray s 0 0 (fun _ => False)) (F0 m pc ls [.int r])
      exact W.zret B.exec B.bytes B.returns hn (fun t ht _ => ⟨r, rfl, rfl, ht⟩) (fun q h => by cases h) hdg B.notSynchronized) s.heap [] _ ⟨rfl, rfl⟩ hP hD hl
theorem tg_metL {l : Launch} {y : MethodName} {cc : ByteArray} {maxL F L : Nat} {D : tg_D} {ws : va_W} {av : List Value} {r : Int64} (hy : plainName y.cls = true) (hfit : (lg_sl av).length ≤ maxL)
    (walk : ∀ X : tg_X, tg_l X = l → tg_C X D maxL cc y.cls F L 0 0 → tg_El X D 0 0 cc r ws → tg_G X D maxL 0 0 ws (lv_args 0 av) 0 []) : Met l y [Cond.code y cc maxL (some .long)] (tg_rm F L) (tg_Pre D ws av) (vp_Sl (fun r' => r' = r)) 0 0 (fun _ => False) := by
  refine Met.ofW (cc := cc) (maxL := maxL) (ret := some .long) hy rfl ?_
  intro p e s m args below meth c s₁ B hml hv
  obtain ⟨rfl, hP, hD, hK, hT⟩ := hv
  have hl := lv_entry av (n := maxL) hfit
  rw [lg_entry_eq]
  exact walk (p, l, e, tg_rm F L, s, m, av.toArray, below, meth, c, MQ below (vp_Sl (fun r' => r' = r)) av.toArray s 0 0 (fun _ => False), fun _ => True, fun H locs => H = s.heap ∧ locs = []) rfl ⟨B.exec, B.bytes, hml, findClass_of_methodNamed B.named, hT, hK, Nat.le_refl _, Nat.le_refl _, Nat.le_refl _, Nat.le_refl _⟩
    (fun H locs ls pc hZ _ _ hdg => by
      obtain ⟨rfl, rfl⟩ := hZ
      show W p l e (tg_rm F L) s m av.toArray below meth c s.heap [] 0 0 (MQ below (vp_Sl (fun r' => r' = r)) av.toArray s 0 0 (fun _ => False)) (F0 m pc ls [.long r])
      exact W.lret B.exec B.bytes B.returns (fun t ht _ => ⟨r, rfl, rfl, ht⟩) (fun q h => by cases h) hdg B.notSynchronized) s.heap [] _ ⟨rfl, rfl⟩ hP hD hl
theorem tg_eZ {A : Nat → Prop} {s : State} {H : Heap} {locs : List Loc} (h : va_S A s.heap H locs) : ∀ q ∈ locs, A q.base := h.2.2
theorem tg_metEi {l : Launch} {y : MethodName} {cc : ByteArray} {maxL F L : Nat} {ty : FieldType} {D : tg_D} {ws ws' : va_W} {av : List Value} {r : Int32} (hy : plainName y.cls = true) (hfit : (lg_sl av).length ≤ maxL)
    (walk : ∀ X : tg_X, tg_l X = l → tg_C X D maxL cc y.cls F L 0 0 → tg_V X → tg_Ei X D 0 0 cc ty r ws' → tg_G X D maxL 0 0 ws (lv_args 0 av) 0 []) : Met l y [Cond.code y cc maxL (some ty)] (tg_rm F L) (tg_Pre D ws av) (tg_Qe (some (.int r)) D ws' (tg_Ad ws)) 0 0 (tg_Ad ws) := by
  refine Met.ofW (cc := cc) (maxL := maxL) (ret := some ty) hy rfl ?_
  intro p e s m args below meth c s₁ B hml hv
  obtain ⟨rfl, hP, hD, hK, hT⟩ := hv
  have hl := lv_entry av (n := maxL) hfit
  rw [lg_entry_eq]
  exact walk (p, l, e, tg_rm F L, s, m, av.toArray, below, meth, c, MQ below (tg_Qe (some (.int r)) D ws' (tg_Ad ws)) av.toArray s 0 0 (tg_Ad ws), tg_Ad ws, va_S (tg_Ad ws) s.heap) rfl ⟨B.exec, B.bytes, hml, findClass_of_methodNamed B.named, hT, hK, Nat.le_refl _, Nat.le_refl _, Nat.le_refl _, Nat.le_refl _⟩ rfl
    (fun H locs ls pc hZ hP1 _ hn hdg => W.zret B.exec B.bytes B.returns hn (fun t ht _ => ⟨rfl, by rw [ht]; exact hP1, va_S.F hZ ht⟩) (tg_eZ hZ) hdg B.notSynchronized) s.heap [] _ va_S.rf hP (tg_self hD) hl
theorem tg_metEv {l : Launch} {y : MethodName} {cc : ByteArray} {maxL F L : Nat} {D : tg_D} {ws ws' : va_W} {av : List Value} (hy : plainName y.cls = true) (hfit : (lg_sl av).length ≤ maxL)
    (walk : ∀ X : tg_X, tg_l X = l → tg_C X D maxL cc y.cls F L 0 0 → tg_V X → tg_Ev X D 0 0 cc ws' → tg_G X D maxL 0 0 ws (lv_args 0 av) 0 []) : Met l y [Cond.code y cc maxL none] (tg_rm F L) (tg_Pre D ws av) (tg_Qe none D ws' (tg_Ad ws)) 0 0 (tg_Ad ws) := by
  refine Met.ofW (cc := cc) (maxL := maxL) (ret := none) hy rfl ?_
  intro p e s m args below meth c s₁ B hml hv
  obtain ⟨rfl, hP, hD, hK, hT⟩ := hv
  have hl := lv_entry av (n := maxL) hfit
  rw [lg_entry_eq]
  exact walk (p, l, e, tg_rm F L, s, m, av.toArray, below, meth, c, MQ below (tg_Qe none D ws' (tg_Ad ws)) av.toArray s 0 0 (tg_Ad ws), tg_Ad ws, va_S (tg_Ad ws) s.heap) rfl ⟨B.exec, B.bytes, hml, findClass_of_methodNamed B.named, hT, hK, Nat.le_refl _, Nat.le_refl _, Nat.le_refl _, Nat.le_refl _⟩ rfl
    (fun H locs ls pc hZ hP1 _ hdg => W.vret B.exec B.bytes B.returns (fun t ht _ => ⟨rfl, by rw [ht]; exact hP1, va_S.F hZ ht⟩) (tg_eZ hZ) hdg B.notSynchronized) s.heap [] _ va_S.rf hP (tg_self hD) hl
/-! a world with some of its cells written over -/
def tg_ov : va_W → List Nat → va_W → va_W
  | ws, i :: is, e :: es => tg_ov (ws.set i e) is es
  | ws, _, _ => ws
theorem tg_ov_mem : ∀ (is : List Nat) (es ws : va_W), is.length = es.length → ∀ (k : Nat) (q : Nat × va_E), (tg_ov ws is es)[k]? = some q → (k ∉ is ∧ ws[k]? = some q) ∨ q ∈ es
  | [], [], ws, _, k, q, h => Or.inl ⟨List.not_mem_nil, h⟩
  | i :: is, e :: es, ws, hlen, k, q, h => by
    rcases tg_ov_mem is es (ws.set i e) (by simpa using hlen) k q h with ⟨h1, h2⟩ | h1
    · by_cases hk : k = i
      · subst hk
        rw [List.getElem?_set] at h2
        split at h2
        · split at h2
          · cases h2; exact Or.inr List.mem_cons_self
          · cases h2
        · exact absurd rfl (by assumption)
      · rw [List.getElem?_set_ne (Ne.symm hk)] at h2
        exact Or.inl ⟨fun hm => (List.mem_cons.mp hm).elim hk h1, h2⟩
    · exact Or.inr (List.mem_cons_of_mem _ h1)
theorem tg_pick {is : List Nat} {ws w : va_W} (hs : is.map (fun i => ws[i]?) = w.map some) {k : Nat} {q : Nat × va_E} (hq : w[k]? = some q) : ∃ i, is[k]? = some i ∧ ws[i]? = some q := by
  have h1 : (is.map (fun i => ws[i]?))[k]? = some (some q) := by rw [hs, List.getElem?_map, hq]; rfl
  rw [List.getElem?_map] at h1
  cases hi : is[k]? with
  | none => rw [hi] at h1; cases h1
  | some i => rw [hi] at h1; exact ⟨i, rfl, Option.some.inj h1⟩
theorem tg_D_congr {A : Nat → Prop} {ws ws' : va_W} (h : ws'.map (fun q => q.1) = ws.map (fun q => q.1)) (hD : va_D A ws) : va_D A ws' := by
  have key : ∀ (k : Nat) (q : Nat × va_E), ws'[k]? = some q → ∃ q0, ws[k]? = some q0 ∧ q0.1 = q.1 := by
    intro k q hk
    have h1 : (ws'.map (fun q => q.1))[k]? = some q.1 := by rw [List.getElem?_map, hk]; rfl
    rw [h, List.getElem?_map] at h1
    cases hi : ws[k]? with
    | none => rw [hi] at h1; cases h1
    | some q0 => rw [hi] at h1; exact ⟨q0, rfl, Option.some.inj h1⟩
  refine ⟨fun i j x y hi hj hxy => ?_, fun k q hk => ?_⟩
  · obtain ⟨x0, h1, h2⟩ := key i x hi
    obtain ⟨y0, h3, h4⟩ := key j y hj
    exact hD.1 i j x0 y0 h1 h3 (h2.trans (hxy.trans h4.symm))
  · obtain ⟨q0, h1, h2⟩ := key k q hk
    rw [← h2]
    exact hD.2 k q0 h1
theorem tg_ov_P {A : Nat → Prop} {D : va_G} {ws wc wc' : va_W} {H H1 : Heap} {isC : List Nat} (hP : va_P D tg_cl ws H) (hD : va_D A ws) (hC : isC.map (fun i => ws[i]?) = wc.map some) (hlen : isC.length = wc'.length) (hk : ∀ q : Nat, q < H.size → ¬ tg_Ad wc q → H1[q]? = H[q]?) (hP1 : va_P D tg_cl wc' H1) : va_P D tg_cl (tg_ov ws isC wc') H1 := by
  intro k q hq
  rcases tg_ov_mem isC wc' ws hlen k q hq with ⟨h1, h2⟩ | h1
  · refine (hP k q h2).kept (hk q.1 (hP k q h2).lt ?_)
    rintro ⟨j, e, hj⟩
    obtain ⟨i, g1, g2⟩ := tg_pick hC hj
    have hik := hD.1 i k (q.1, e) q g2 h2 rfl
    subst hik
    exact h1 (List.mem_of_getElem? g1)
  · obtain ⟨j, hj⟩ := List.getElem?_of_mem h1
    exact hP1 j q hj
/-- what the tables say of a method that is called: an instance's, a static one -/
def tg_MV (C : String) (y : MethodName) (bytes : ByteArray) (maxL : Nat) (ret : Option FieldType) (np : Nat) : Prop := Cond.instanceMethod y ∈ tg_tbl ∧ Cond.selects C y y ∈ tg_tbl ∧ Cond.initialized y.cls ∈ tg_tbl ∧ Cond.code y bytes maxL ret ∈ tg_tbl ∧ y.cls ≠ "java/lang/invoke/MethodHandle" ∧ y.cls ≠ "java/lang/invoke/VarHandle" ∧ (parseMethodDescriptor y.desc).map (fun d => d.parameters.length) = some np
def tg_MS (y : MethodName) (bytes : ByteArray) (maxL : Nat) (ret : Option FieldType) (np : Nat) : Prop := Cond.static y ∈ tg_tbl ∧ Cond.initialized y.cls ∈ tg_tbl ∧ Cond.code y bytes maxL ret ∈ tg_tbl ∧ y.cls ≠ "java/lang/invoke/MethodHandle" ∧ y.cls ≠ "java/lang/invoke/VarHandle" ∧ (parseMethodDescriptor y.desc).map (fun d => d.parameters.length) = some np
theorem tg_good {y : MethodName} {bytes : ByteArray} {maxL : Nat} {ret : Option FieldType} (h : Cond.code y bytes maxL ret ∈ tg_tbl) : GoodIn tg_tbl [Cond.code y bytes maxL ret] := fun w hw => by
  rw [List.mem_singleton.mp hw]
  exact ⟨h, Or.inl rfl⟩
section TGC
variable {X : tg_X} {D : tg_D} {nL k n : Nat} {ws ws' wc wc' : va_W} {lv lv' : List (Nat × Value)} {pc : Nat} {st rest As : List Value} {cc bytes : ByteArray} {own Cn : String} {F L kc ns maxL np ix b ci f2 l2 : Nat} {y : MethodName} {ret : Option FieldType} {fs : List Value} {T : u_T × Nat}
theorem tg_preV {H : Heap} (hP : va_P D.1 tg_cl ws H) (hD : va_D (tg_A X) ws) (C : tg_C X D nL cc own F L kc ns) (isC : List Nat) (hC : isC.map (fun i => ws[i]?) = wc.map some) (hnd : va_nd isC = true) {av : List Value} : ∀ U : State, U.heap = H → (tg_s X).WarmedH U.vm → tg_Pre D wc av av.toArray U := by
  intro U hU hW
  refine ⟨rfl, ?_, ?_, va_K.moved hW.alike C.2.2.2.2.2.1, C.2.2.2.2.1.warm hW⟩
  · rw [hU]
    intro j q hq
    obtain ⟨i, -, g2⟩ := tg_pick hC hq
    exact hP i q g2
  · exact (hD.sub isC hnd hC).weaken (fun _ _ _ _ => trivial)
theorem tg_cB (C : tg_C X D nL cc own F L kc ns) (hm : Cond.methodLink own ix y ∈ tg_tbl) (h2 : Cond.initialized y.cls ∈ tg_tbl) (h3 : Cond.code y bytes maxL ret ∈ tg_tbl) (hd : y.cls ≠ "java/lang/invoke/MethodHandle" ∧ y.cls ≠ "java/lang/invoke/VarHandle" ∧ (parseMethodDescriptor y.desc).map (fun d => d.parameters.length) = some np) (hF : f2 + 1 ≤ F ∧ 8 + (maxL + 11) + l2 ≤ L) : CallB (tg_R X) (tg_s X) (tg_a X) own ix y bytes maxL ret [Cond.code y bytes maxL ret] (tg_rm f2 l2) 0 0 np :=
  callB_of np C.2.2.2.2.1 (tg_good h3) rfl rfl rfl (C.2.2.2.2.1 _ h2) (C.2.2.2.2.1 _ hm) hd ⟨Nat.le_trans hF.1 C.2.2.2.2.2.2.1, Nat.le_trans hF.2 C.2.2.2.2.2.2.2.1⟩
theorem tg_cN {host : String} (C : tg_C X D nL cc own F L kc ns) (hm : Cond.methodLinkNest own ix y host ∈ tg_tbl) (h2 : Cond.initialized y.cls ∈ tg_tbl) (h3 : Cond.code y bytes maxL ret ∈ tg_tbl) (hd : y.cls ≠ "java/lang/invoke/MethodHandle" ∧ y.cls ≠ "java/lang/invoke/VarHandle" ∧ (parseMethodDescriptor y.desc).map (fun d => d.parameters.length) = some np) (hF : f2 + 1 ≤ F ∧ 8 + (maxL + 11) + l2 ≤ L) : va_CN (tg_R X) (tg_s X) (tg_a X) own ix y host bytes maxL ret [Cond.code y bytes maxL ret] (tg_rm f2 l2) 0 0 np :=
  va_cnB np C.2.2.2.2.1 (tg_good h3) rfl rfl rfl (va_Nw.of rfl (C.2.2.2.2.1 _ hm)) (C.2.2.2.2.1 _ h2) hd ⟨Nat.le_trans hF.1 C.2.2.2.2.2.2.1, Nat.le_trans hF.2 C.2.2.2.2.2.2.2.1⟩
theorem tg_recv {H : Heap} (C : tg_C X D nL cc own F L kc ns) (hP : va_P D.1 tg_cl ws H) (isC : List Nat) (hC : isC.map (fun i => ws[i]?) = wc.map some) (hb : wc[0]? = some (b, .inr (ci, fs))) (hcl : tg_cl[ci]? = some (Cn, T)) : ∃ cell : Cell, H[b]? = some cell ∧ cell.vm.isStatics = false ∧ (tg_s X).vm.findClass Cn = some cell.cls := by
  obtain ⟨i, -, g2⟩ := tg_pick hC hb
  exact va_recv C.2.2.2.2.2.1 hP hcl g2
/-- a reader is called on an object -/
theorem tg_pV {l : Launch} {ty : FieldType} {r : Int32} (C : tg_C X D nL cc own F L kc ns) (hl0 : tg_l X = l) (hM : Met l y [Cond.code y bytes maxL (some ty)] (tg_rm f2 l2) (tg_Pre D wc (.ref b :: As)) (vp_Si (fun r' => r' = r)) 0 0 (fun _ => False)) (hm : Cond.methodLink own ix y ∈ tg_tbl) (ce : tg_MV Cn y bytes maxL (some ty) np) (hF : f2 + 1 ≤ F ∧ 8 + (maxL + 11) + l2 ≤ L ∧ k ≤ kc ∧ n ≤ ns) (isC : List Nat) (hC : isC.map (fun i => ws[i]?) = wc.map some) (hnd : va_nd isC = true) (hb : wc[0]? = some (b, .inr (ci, fs))) (hcl : tg_cl[ci]? = some (Cn, T)) (hn : As.length = np) (hst : st = As.reverse ++ .ref b :: rest) (hW : (rest.map fun v => v.category).sum ≤ 8) (hdg : decode cc pc = .ok (.invokevirtual ix, 3)) (kk : tg_G X D nL k n ws lv (pc + 3) (.int r :: rest)) : tg_G X D nL k n ws lv pc st := by
  subst hl0
  intro H locs ls hZ hP hD hl
  exact vp_callSi (va_Run.run (va_runV (As := As) (rest := rest) ⟨C.1, C.2.1, C.2.2.1, C.2.2.2.1, C.2.2.2.2.1⟩ hM ⟨tg_cB C hm ce.2.2.1 ce.2.2.2.1 ce.2.2.2.2 ⟨hF.1, hF.2.1⟩, C.2.2.2.2.1 _ ce.1, C.2.2.2.2.1 _ ce.2.1⟩ ⟨tg_Pre.blind, tg_recv C hP isC hC hb hcl, tg_preV hP hD C isC hC hnd⟩ rfl hn hl.1 hst (lv_room hW) hdg ⟨Nat.le_trans hF.2.2.1 C.2.2.2.2.2.2.2.2.1, Nat.le_trans hF.2.2.2 C.2.2.2.2.2.2.2.2.2⟩)) (fun r' e => by rw [e]; exact kk H locs ls hZ hP hD hl)
theorem tg_pVl {l : Launch} {r : Int64} (C : tg_C X D nL cc own F L kc ns) (hl0 : tg_l X = l) (hM : Met l y [Cond.code y bytes maxL (some .long)] (tg_rm f2 l2) (tg_Pre D wc (.ref b :: As)) (vp_Sl (fun r' => r' = r)) 0 0 (fun _ => False)) (hm : Cond.methodLink own ix y ∈ tg_tbl) (ce : tg_MV Cn y bytes maxL (some .long) np) (hF : f2 + 1 ≤ F ∧ 8 + (maxL + 11) + l2 ≤ L ∧ k ≤ kc ∧ n ≤ ns) (isC : List Nat) (hC : isC.map (fun i => ws[i]?) = wc.map some) (hnd : va_nd isC = true) (hb : wc[0]? = some (b, .inr (ci, fs))) (hcl : tg_cl[ci]? = some (Cn, T)) (hn : As.length = np) (hst : st = As.reverse ++ .ref b :: rest) (hW : (rest.map fun v => v.category).sum ≤ 8) (hdg : decode cc pc = .ok (.invokevirtual ix, 3)) (kk : tg_G X D nL k n ws lv (pc + 3) (.long r :: rest)) : tg_G X D nL k n ws lv pc st := by
  subst hl0
  intro H locs ls hZ hP hD hl
  exact vp_callSl (va_Run.run (va_runV (As := As) (rest := rest) ⟨C.1, C.2.1, C.2.2.1, C.2.2.2.1, C.2.2.2.2.1⟩ hM ⟨tg_cB C hm ce.2.2.1 ce.2.2.2.1 ce.2.2.2.2 ⟨hF.1, hF.2.1⟩, C.2.2.2.2.1 _ ce.1, C.2.2.2.2.1 _ ce.2.1⟩ ⟨tg_Pre.blind, tg_recv C hP isC hC hb hcl, tg_preV hP hD C isC hC hnd⟩ rfl hn hl.1 hst (lv_room hW) hdg ⟨Nat.le_trans hF.2.2.1 C.2.2.2.2.2.2.2.2.1, Nat.le_trans hF.2.2.2 C.2.2.2.2.2.2.2.2.2⟩)) (fun r' e => by rw [e]; exact kk H locs ls hZ hP hD hl)
/-- a static reader is called; of a nest mate -/
theorem tg_pS {l : Launch} {ty : FieldType} {r : Int32} (C : tg_C X D nL cc own F L kc ns) (hl0 : tg_l X = l) (hM : Met l y [Cond.code y bytes maxL (some ty)] (tg_rm f2 l2) (tg_Pre D [] As) (vp_Si (fun r' => r' = r)) 0 0 (fun _ => False)) (hm : Cond.methodLink own ix y ∈ tg_tbl) (ce : tg_MS y bytes maxL (some ty) np) (hF : f2 + 1 ≤ F ∧ 8 + (maxL + 11) + l2 ≤ L ∧ k ≤ kc ∧ n ≤ ns) (hn : As.length = np) (hst : st = As.reverse ++ rest) (hW : (rest.map fun v => v.category).sum ≤ 8) (hdg : decode cc pc = .ok (.invokestatic ix, 3)) (kk : tg_G X D nL k n ws lv (pc + 3) (.int r :: rest)) : tg_G X D nL k n ws lv pc st := by
  subst hl0
  intro H locs ls hZ hP hD hl
  exact vp_callSi (va_Run.run (va_runS (As := As) (rest := rest) ⟨C.1, C.2.1, C.2.2.1, C.2.2.2.1, C.2.2.2.2.1⟩ hM ⟨tg_cB C hm ce.2.1 ce.2.2.1 ce.2.2.2 ⟨hF.1, hF.2.1⟩, C.2.2.2.2.1 _ ce.1⟩ ⟨tg_Pre.blind, tg_preV (ws := ws) hP hD C [] rfl rfl⟩ rfl hn hl.1 hst (lv_room hW) hdg ⟨Nat.le_trans hF.2.2.1 C.2.2.2.2.2.2.2.2.1, Nat.le_trans hF.2.2.2 C.2.2.2.2.2.2.2.2.2⟩)) (fun r' e => by rw [e]; exact kk H locs ls hZ hP hD hl)
theorem tg_pN {l : Launch} {ty : FieldType} {r : Int32} {host : String} (C : tg_C X D nL cc own F L kc ns) (hl0 : tg_l X = l) (hM : Met l y [Cond.code y bytes maxL (some ty)] (tg_rm f2 l2) (tg_Pre D [] As) (vp_Si (fun r' => r' = r)) 0 0 (fun _ => False)) (hm : Cond.methodLinkNest own ix y host ∈ tg_tbl) (ce : tg_MS y bytes maxL (some ty) np) (hF : f2 + 1 ≤ F ∧ 8 + (maxL + 11) + l2 ≤ L ∧ k ≤ kc ∧ n ≤ ns) (hn : As.length = np) (hst : st = As.reverse ++ rest) (hW : (rest.map fun v => v.category).sum ≤ 8) (hdg : decode cc pc = .ok (.invokestatic ix, 3)) (kk : tg_G X D nL k n ws lv (pc + 3) (.int r :: rest)) : tg_G X D nL k n ws lv pc st := by
  subst hl0
  intro H locs ls hZ hP hD hl
  exact vp_callSi (va_Run.run (va_runSN (As := As) (rest := rest) ⟨C.1, C.2.1, C.2.2.1, C.2.2.2.1, C.2.2.2.2.1⟩ hM ⟨tg_cN C hm ce.2.1 ce.2.2.1 ce.2.2.2 ⟨hF.1, hF.2.1⟩, C.2.2.2.2.1 _ ce.1, trivial⟩ ⟨tg_Pre.blind, tg_preV (ws := ws) hP hD C [] rfl rfl⟩ rfl hn hl.1 hst (lv_room hW) hdg ⟨Nat.le_trans hF.2.2.1 C.2.2.2.2.2.2.2.2.1, Nat.le_trans hF.2.2.2 C.2.2.2.2.2.2.2.2.2⟩)) (fun r' e => by rw [e]; exact kk H locs ls hZ hP hD hl)
/-- a writer is called on an object -/
theorem tg_eV {l : Launch} {v : Option Value} (C : tg_C X D nL cc own F L kc ns) (V : tg_V X) (hl0 : tg_l X = l) (hM : Met l y [Cond.code y bytes maxL ret] (tg_rm f2 l2) (tg_Pre D wc (.ref b :: As)) (tg_Qe v D wc' (tg_Ad wc)) 0 0 (tg_Ad wc)) (hm : Cond.methodLink own ix y ∈ tg_tbl) (ce : tg_MV Cn y bytes maxL ret np) (hF : f2 + 1 ≤ F ∧ 8 + (maxL + 11) + l2 ≤ L ∧ k ≤ kc ∧ n ≤ ns) (isC : List Nat) (hC : isC.map (fun i => ws[i]?) = wc.map some) (hnd : va_nd isC = true) (hb : wc[0]? = some (b, .inr (ci, fs))) (hcl : tg_cl[ci]? = some (Cn, T)) (hn : As.length = np) (hst : st = As.reverse ++ .ref b :: rest) (hW : (rest.map fun v => v.category).sum ≤ 8) (hlen : isC.length = wc'.length) (hw : tg_ov ws isC wc' = ws') (had : ws'.map (fun q => q.1) = ws.map (fun q => q.1)) (hdg : decode cc pc = .ok (.invokevirtual ix, 3)) (kk : tg_G X D nL k n ws' lv (pc + 3) (v.toList ++ rest)) : tg_G X D nL k n ws lv pc st := by
  subst hl0
  intro H locs ls hZ hP hD hl
  rw [V] at hZ
  have hr := va_runV (As := As) (rest := rest) (locs := locs) (cells := k) (slots := n) (e := tg_e X) (below := tg_b X) (meth := tg_h X) (g := F0 (tg_m X) pc ls st) ⟨C.1, C.2.1, C.2.2.1, C.2.2.2.1, C.2.2.2.2.1⟩ hM ⟨tg_cB C hm ce.2.2.1 ce.2.2.2.1 ce.2.2.2.2 ⟨hF.1, hF.2.1⟩, C.2.2.2.2.1 _ ce.1, C.2.2.2.2.1 _ ce.2.1⟩ ⟨tg_Pre.blind, tg_recv C hP isC hC hb hcl, tg_preV hP hD C isC hC hnd⟩ rfl hn hl.1 hst (lv_room hW) hdg ⟨Nat.le_trans hF.2.2.1 C.2.2.2.2.2.2.2.2.1, Nat.le_trans hF.2.2.2 C.2.2.2.2.2.2.2.2.2⟩
  have hsub : ∀ q, tg_Ad wc q → tg_A X q := by
    rintro q ⟨j, e, hj⟩
    obtain ⟨i, -, g2⟩ := tg_pick hC hj
    exact hD.2 i _ g2
  intro T hT Xs
  obtain ⟨v', st₀, t, T', L, h0, X', hL, e1, -, ⟨hv, hP1, hz, hk⟩, stp⟩ := hr T hT Xs
  cases hv
  rw [h0] at hz hk
  obtain ⟨t2, a1, b1⟩ := kk t.heap (locs ++ L) ls (by
      rw [V]
      refine ⟨Nat.le_trans hZ.1 hz, fun q h1 h2 => ?_, fun q hq => ?_⟩
      · rw [hk q (Nat.lt_of_lt_of_le h1 hZ.1) (fun z => h2 (hsub q z))]
        exact hZ.2.1 q h1 h2
      · rcases List.mem_append.mp hq with h | h
        · exact hZ.2.2 q h
        · exact hsub _ (hL q h)) (by rw [← hw]; exact tg_ov_P hP hD hC hlen hk hP1) (tg_D_congr had hD) hl T' e1 X'
  exact ⟨t2, stp t2 a1, b1⟩
/-- calls whose world is the caller's own -/
theorem tg_pVs {l : Launch} {ty : FieldType} {r : Int32} (C : tg_C X D nL cc own F L kc ns) (hl0 : tg_l X = l) (hM : Met l y [Cond.code y bytes maxL (some ty)] (tg_rm f2 l2) (tg_Pre D ws (.ref b :: As)) (vp_Si (fun r' => r' = r)) 0 0 (fun _ => False)) (hm : Cond.methodLink own ix y ∈ tg_tbl) (ce : tg_MV Cn y bytes maxL (some ty) np) (hF : f2 + 1 ≤ F ∧ 8 + (maxL + 11) + l2 ≤ L ∧ k ≤ kc ∧ n ≤ ns) (hb : ws[0]? = some (b, .inr (ci, fs))) (hcl : tg_cl[ci]? = some (Cn, T)) (hn : As.length = np) (hst : st = As.reverse ++ .ref b :: rest) (hW : (rest.map fun v => v.category).sum ≤ 8) (hdg : decode cc pc = .ok (.invokevirtual ix, 3)) (kk : tg_G X D nL k n ws lv (pc + 3) (.int r :: rest)) : tg_G X D nL k n ws lv pc st := by
  subst hl0
  intro H locs ls hZ hP hD hl
  exact vp_callSi (va_Run.run (va_runV (As := As) (rest := rest) ⟨C.1, C.2.1, C.2.2.1, C.2.2.2.1, C.2.2.2.2.1⟩ hM ⟨tg_cB C hm ce.2.2.1 ce.2.2.2.1 ce.2.2.2.2 ⟨hF.1, hF.2.1⟩, C.2.2.2.2.1 _ ce.1, C.2.2.2.2.1 _ ce.2.1⟩ ⟨tg_Pre.blind, va_recv C.2.2.2.2.2.1 hP hcl hb, fun U hU hW => ⟨rfl, by rw [hU]; exact hP, hD.weaken (fun _ _ _ _ => trivial), va_K.moved hW.alike C.2.2.2.2.2.1, C.2.2.2.2.1.warm hW⟩⟩ rfl hn hl.1 hst (lv_room hW) hdg ⟨Nat.le_trans hF.2.2.1 C.2.2.2.2.2.2.2.2.1, Nat.le_trans hF.2.2.2 C.2.2.2.2.2.2.2.2.2⟩)) (fun r' e => by rw [e]; exact kk H locs ls hZ hP hD hl)
theorem tg_eVs {l : Launch} {v : Option Value} (C : tg_C X D nL cc own F L kc ns) (V : tg_V X) (hl0 : tg_l X = l) (hM : Met l y [Cond.code y bytes maxL ret] (tg_rm f2 l2) (tg_Pre D ws (.ref b :: As)) (tg_Qe v D ws' (tg_Ad ws)) 0 0 (tg_Ad ws)) (hm : Cond.methodLink own ix y ∈ tg_tbl) (ce : tg_MV Cn y bytes maxL ret np) (hF : f2 + 1 ≤ F ∧ 8 + (maxL + 11) + l2 ≤ L ∧ k ≤ kc ∧ n ≤ ns) (hb : ws[0]? = some (b, .inr (ci, fs))) (hcl : tg_cl[ci]? = some (Cn, T)) (hn : As.length = np) (hst : st = As.reverse ++ .ref b :: rest) (hW : (rest.map fun v => v.category).sum ≤ 8) (had : ws'.map (fun q => q.1) = ws.map (fun q => q.1)) (hdg : decode cc pc = .ok (.invokevirtual ix, 3)) (kk : tg_G X D nL k n ws' lv (pc + 3) (v.toList ++ rest)) : tg_G X D nL k n ws lv pc st := by
  subst hl0
  intro H locs ls hZ hP hD hl
  rw [V] at hZ
  have hr := va_runV (As := As) (rest := rest) (locs := locs) (cells := k) (slots := n) (e := tg_e X) (below := tg_b X) (meth := tg_h X) (g := F0 (tg_m X) pc ls st) ⟨C.1, C.2.1, C.2.2.1, C.2.2.2.1, C.2.2.2.2.1⟩ hM ⟨tg_cB C hm ce.2.2.1 ce.2.2.2.1 ce.2.2.2.2 ⟨hF.1, hF.2.1⟩, C.2.2.2.2.1 _ ce.1, C.2.2.2.2.1 _ ce.2.1⟩ ⟨tg_Pre.blind, va_recv C.2.2.2.2.2.1 hP hcl hb, fun U hU hW => ⟨rfl, by rw [hU]; exact hP, hD.weaken (fun _ _ _ _ => trivial), va_K.moved hW.alike C.2.2.2.2.2.1, C.2.2.2.2.1.warm hW⟩⟩ rfl hn hl.1 hst (lv_room hW) hdg ⟨Nat.le_trans hF.2.2.1 C.2.2.2.2.2.2.2.2.1, Nat.le_trans hF.2.2.2 C.2.2.2.2.2.2.2.2.2⟩
  have hsub : ∀ q, tg_Ad ws q → tg_A X q := by
    rintro q ⟨j, e, hj⟩
    exact hD.2 j _ hj
  intro T hT Xs
  obtain ⟨v', st₀, t, T', L, h0, X', hL, e1, -, ⟨hv, hP1, hz, hk⟩, stp⟩ := hr T hT Xs
  cases hv
  rw [h0] at hz hk
  obtain ⟨t2, a1, b1⟩ := kk t.heap (locs ++ L) ls (by
      rw [V]
      refine ⟨Nat.le_trans hZ.1 hz, fun q h1 h2 => ?_, fun q hq => ?_⟩
      · rw [hk q (Nat.lt_of_lt_of_le h1 hZ.1) (fun z => h2 (hsub q z))]
        exact hZ.2.1 q h1 h2
      · rcases List.mem_append.mp hq with h | h
        · exact hZ.2.2 q h
        · exact hsub _ (hL q h)) hP1 (tg_D_congr had hD) hl T' e1 X'
  exact ⟨t2, stp t2 a1, b1⟩
end TGC
