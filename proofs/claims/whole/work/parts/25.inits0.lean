def tw_RI (D : tg_D) (r0 e0 e1 e2 z0 : Nat) (r_fault : Int32) (r_length : Int32) (r_kind : Int32) (r_start : Int32) (r_next : Int32) (r_number : Int32) (r_dice : Int32) (r_bt : Int32) (r_gt : Int32) (d_pips : Nat → Int32) (d_many : Nat → Int32) (d_berths : Int32) (d_goal : Int32) : va_W := [(r0, .inr (2, [.ref e0, .int r_fault, .ref z0, .int r_length, .int r_kind, .int r_start, .int r_next, .int r_number, .int r_dice, .int r_bt, .int r_gt])), (e0, .inr (3, [.ref e1, .ref e2, .int d_berths, .int d_goal])), (e1, .inl (D.2 0, 18, .inl d_pips)), (e2, .inl (D.2 0, 3, .inl d_many)), (z0, .inl (D.2 2, 0, .inl (fun _ => 0)))]
theorem tg_wsE {X : tg_X} {D : tg_D} {nL k n : Nat} {ws ws' : va_W} {lv : List (Nat × Value)} {pc : Nat} {st : List Value} (h : ws = ws') (kk : tg_G X D nL k n ws' lv pc st) : tg_G X D nL k n ws lv pc st := h ▸ kk
def fX3_init : Option ((Nat → Int32) × (Nat → Int32) × Int32 × Int32) := tg_b4 (fX3_setFirst (fun _ => 0) (fun _ => 0)) fun gg1 gg2 gg3 gg4 => some (gg1, gg2, gg3, gg4)
set_option maxHeartbeats 4000000 in
set_option maxRecDepth 20000 in
theorem vX3_init (l : Launch) (D : tg_D) (t0 : Nat) (X : tg_X) (hl0 : tg_l X = l) (C : tg_C X D 1 cX3_init RX3 1 22 2 21) (V : tg_V X) (hA : ∀ q, (tg_s X).heap.size ≤ q → tg_A X q) (hin : (tg_h X).name = "<init>") (q_t_pips : Nat → Int32) (q_t_many : Nat → Int32) (q_t_berths : Int32) (q_t_goal : Int32) (hs : fX3_init = some (q_t_pips, q_t_many, q_t_berths, q_t_goal)) (hE : tg_EN X D 2 21 cX3_init (fun w1 => ∃ t1 t2 : Nat, w1 = tw_T D t0 t1 t2 q_t_pips q_t_many q_t_berths q_t_goal)) : tg_G X D 1 0 0 [(t0, .inr (3, [.null, .null, .int 0, .int 0]))] [(0, .ref t0)] 0 [] := by
  unfold fX3_init at hs
  refine tg_aload_n C dX3_init_0 rfl 0 rfl ?_
  refine tg_oinit C wm_84 wm_77 wm_78 ⟨Nat.le_of_ble_eq_true rfl, Nat.le_of_ble_eq_true rfl⟩ dX3_init_1 ?_
  refine tg_aload_n C dX3_init_4 rfl 0 rfl ?_
  refine tg_bipush (v := 18) C dX3_init_5 (by decide) ?_
  refine tg_newa (N := 18) (atype := .int) (ty := .int) C V hA rfl wm_112 0 rfl (fun _ h => by cases h) (fun _ => rfl) (by decide) (by decide) (by decide) ⟨by decide, by decide⟩ dX3_init_7 (fun t1 => ?_)
  refine tg_wsE (ws' := [(t0, .inr (3, [.null, .null, .int 0, .int 0])), (t1, .inl (D.2 0, 18, .inl (fun _ => 0)))]) rfl ?_
  refine tg_putF (ws' := [(t0, .inr (3, [.ref t1, .null, .int 0, .int 0])), (t1, .inl (D.2 0, 18, .inl (fun _ => 0)))]) C V hin cfX3 0 rfl 0 (by decide) wm_89 rfl rfl rfl rfl (Nat.le_of_ble_eq_true rfl) rfl dX3_init_9 ?_
  refine tg_aload_n C dX3_init_12 rfl 0 rfl ?_
  refine tg_iconst (v := 3) C dX3_init_13 (by decide) ?_
  refine tg_newa (N := 3) (atype := .int) (ty := .int) C V hA rfl wm_112 0 rfl (fun _ h => by cases h) (fun _ => rfl) (by decide) (by decide) (by decide) ⟨by decide, by decide⟩ dX3_init_14 (fun t2 => ?_)
  refine tg_wsE (ws' := [(t0, .inr (3, [.ref t1, .null, .int 0, .int 0])), (t1, .inl (D.2 0, 18, .inl (fun _ => 0))), (t2, .inl (D.2 0, 3, .inl (fun _ => 0)))]) rfl ?_
  refine tg_putF (ws' := [(t0, .inr (3, [.ref t1, .ref t2, .int 0, .int 0])), (t1, .inl (D.2 0, 18, .inl (fun _ => 0))), (t2, .inl (D.2 0, 3, .inl (fun _ => 0)))]) C V hin cfX3 0 rfl 1 (by decide) wm_91 rfl rfl rfl rfl (Nat.le_of_ble_eq_true rfl) rfl dX3_init_16 ?_
  refine tg_aload_n C dX3_init_19 rfl 0 rfl ?_
  obtain ⟨gg1, gg2, gg3, gg4, ee5, hs⟩ := tg_b4_e hs
  refine tg_eV (ws' := [(t0, .inr (3, [.ref t1, .ref t2, .int gg3, .int gg4])), (t1, .inl (D.2 0, 18, .inl gg1)), (t2, .inl (D.2 0, 3, .inl gg2))]) (As := []) (rest := []) C V hl0 (kX3_setFirst l D t0 t1 t2 (fun _ => 0) (fun _ => 0) 0 0 gg1 gg2 gg3 gg4 ee5) wm_85 meX3_setFirst (by decide) [0, 1, 2] rfl (by decide) rfl rfl rfl rfl (Nat.le_of_ble_eq_true rfl) rfl rfl rfl dX3_init_20 ?_
  obtain ⟨rfl, rfl, rfl, rfl⟩ := tg_i4 hs
  refine tg_perm (ws' := (tw_T D t0 t1 t2 gg1 gg2 gg3 gg4)) [0, 1, 2] rfl (by decide) ?_
  refine tg_widen (k2 := 2) (n2 := 21) (by decide) (by decide) ?_
  exact tg_vretN hE ⟨t1, t2, rfl⟩ dX3_init_23
set_option maxHeartbeats 4000000 in
set_option maxRecDepth 20000 in
theorem kX3_init (l : Launch) (D : tg_D) (t0 : Nat) (sz : Nat) (q_t_pips : Nat → Int32) (q_t_many : Nat → Int32) (q_t_berths : Int32) (q_t_goal : Int32) (hs : fX3_init = some (q_t_pips, q_t_many, q_t_berths, q_t_goal)) : Met l yX3_init [Cond.code yX3_init cX3_init 1 none] (tg_rmN 1 22 2 21) (tg_PreN D [(t0, .inr (3, [.null, .null, .int 0, .int 0]))] sz [.ref t0]) (tg_QN (fun w1 => ∃ t1 t2 : Nat, w1 = tw_T D t0 t1 t2 q_t_pips q_t_many q_t_berths q_t_goal) D (va_A [(t0, .inr (3, [.null, .null, .int 0, .int 0]))] sz)) 2 21 (va_A [(t0, .inr (3, [.null, .null, .int 0, .int 0]))] sz) := tg_metN (by decide) rfl (Nat.le_of_ble_eq_true rfl) (fun X hl0 C V hA hin hE => vX3_init l D t0 X hl0 C V hA hin q_t_pips q_t_many q_t_berths q_t_goal hs hE)
def fX2_init : Option ((Nat → Int32) × (Nat → Int32) × Int32 × Int32) := tg_b4 (fX3_init) fun vv1 vv2 vv3 vv4 => some (vv1, vv2, vv3, vv4)
set_option maxHeartbeats 4000000 in
set_option maxRecDepth 20000 in
theorem vX2_init (l : Launch) (D : tg_D) (r0 : Nat) (X : tg_X) (hl0 : tg_l X = l) (C : tg_C X D 1 cX2_init RX2 2 42 4 25) (V : tg_V X) (hA : ∀ q, (tg_s X).heap.size ≤ q → tg_A X q) (hin : (tg_h X).name = "<init>") (q_d_pips : Nat → Int32) (q_d_many : Nat → Int32) (q_d_berths : Int32) (q_d_goal : Int32) (hs : fX2_init = some (q_d_pips, q_d_many, q_d_berths, q_d_goal)) (hE : tg_EN X D 4 25 cX2_init (fun w1 => ∃ e0 e1 e2 z0 : Nat, w1 = tw_RI D r0 e0 e1 e2 z0 0 0 0 0 0 0 0 0 0 q_d_pips q_d_many q_d_berths q_d_goal)) : tg_G X D 1 0 0 [(r0, .inr (2, [.null, .int 0, .null, .int 0, .int 0, .int 0, .int 0, .int 0, .int 0, .int 0, .int 0]))] [(0, .ref r0)] 0 [] := by
  unfold fX2_init at hs
  refine tg_aload_n C dX2_init_0 rfl 0 rfl ?_
  refine tg_oinit C wm_118 wm_77 wm_78 ⟨Nat.le_of_ble_eq_true rfl, Nat.le_of_ble_eq_true rfl⟩ dX2_init_1 ?_
  refine tg_aload_n C dX2_init_4 rfl 0 rfl ?_
  refine tg_new (fs := [.null, .null, .int 0, .int 0]) C V hA cfX3 wm_119 wm_80 wm_63 (by decide) ⟨by decide, by decide⟩ dX2_init_5 (fun e0 => ?_)
  refine tg_wsE (ws' := [(r0, .inr (2, [.null, .int 0, .null, .int 0, .int 0, .int 0, .int 0, .int 0, .int 0, .int 0, .int 0])), (e0, .inr (3, [.null, .null, .int 0, .int 0]))]) rfl ?_
  refine tg_dup C dX2_init_8 rfl ?_
  obtain ⟨vv1, vv2, vv3, vv4, ee5, hs⟩ := tg_b4_e hs
  refine tg_cI (np := 0) (As := []) (rest := [.ref e0, .ref r0]) (wc := [(e0, .inr (3, [.null, .null, .int 0, .int 0]))]) (wr := [(r0, .inr (2, [.null, .int 0, .null, .int 0, .int 0, .int 0, .int 0, .int 0, .int 0, .int 0, .int 0]))]) C V hA hl0 (fun sz => kX3_init l D e0  sz vv1 vv2 vv3 vv4 ee5) rfl wm_120 wm_82 wm_63 wm_83 (by decide) (by decide) [1] [0] rfl rfl (by decide) (by decide) (by decide) rfl rfl (Nat.le_of_ble_eq_true rfl) dX2_init_9 ?_
  rintro w1 ⟨e1, e2, rfl⟩
  refine tg_wsE (ws' := [(r0, .inr (2, [.null, .int 0, .null, .int 0, .int 0, .int 0, .int 0, .int 0, .int 0, .int 0, .int 0])), (e0, .inr (3, [.ref e1, .ref e2, .int vv3, .int vv4])), (e1, .inl (D.2 0, 18, .inl vv1)), (e2, .inl (D.2 0, 3, .inl vv2))]) rfl ?_
  refine tg_putF (ws' := [(r0, .inr (2, [.ref e0, .int 0, .null, .int 0, .int 0, .int 0, .int 0, .int 0, .int 0, .int 0, .int 0])), (e0, .inr (3, [.ref e1, .ref e2, .int vv3, .int vv4])), (e1, .inl (D.2 0, 18, .inl vv1)), (e2, .inl (D.2 0, 3, .inl vv2))]) C V hin cfX2 0 rfl 0 (by decide) wm_121 rfl rfl rfl rfl (Nat.le_of_ble_eq_true rfl) rfl dX2_init_12 ?_
  refine tg_aload_n C dX2_init_15 rfl 0 rfl ?_
  refine tg_iconst (v := 0) C dX2_init_16 (by decide) ?_
  refine tg_newa (N := 0) (atype := .char) (ty := .char) C V hA rfl wm_111 2 rfl (fun _ h => by cases h) (fun _ => rfl) (by decide) (by decide) (by decide) ⟨by decide, by decide⟩ dX2_init_17 (fun z0 => ?_)
  refine tg_wsE (ws' := [(r0, .inr (2, [.ref e0, .int 0, .null, .int 0, .int 0, .int 0, .int 0, .int 0, .int 0, .int 0, .int 0])), (e0, .inr (3, [.ref e1, .ref e2, .int vv3, .int vv4])), (e1, .inl (D.2 0, 18, .inl vv1)), (e2, .inl (D.2 0, 3, .inl vv2)), (z0, .inl (D.2 2, 0, .inl (fun _ => 0)))]) rfl ?_
  refine tg_put (ws' := [(r0, .inr (2, [.ref e0, .int 0, .ref z0, .int 0, .int 0, .int 0, .int 0, .int 0, .int 0, .int 0, .int 0])), (e0, .inr (3, [.ref e1, .ref e2, .int vv3, .int vv4])), (e1, .inl (D.2 0, 18, .inl vv1)), (e2, .inl (D.2 0, 3, .inl vv2)), (z0, .inl (D.2 2, 0, .inl (fun _ => 0)))]) C V cfX2 0 rfl 2 (by decide) wm_125 rfl rfl rfl (Nat.le_of_ble_eq_true rfl) rfl dX2_init_19 ?_
  obtain ⟨rfl, rfl, rfl, rfl⟩ := tg_i4 hs
  refine tg_perm (ws' := (tw_RI D r0 e0 e1 e2 z0 0 0 0 0 0 0 0 0 0 vv1 vv2 vv3 vv4)) [0, 1, 2, 3, 4] rfl (by decide) ?_
  refine tg_widen (k2 := 4) (n2 := 25) (by decide) (by decide) ?_
  exact tg_vretN hE ⟨e0, e1, e2, z0, rfl⟩ dX2_init_22
set_option maxHeartbeats 4000000 in
set_option maxRecDepth 20000 in
theorem kX2_init (l : Launch) (D : tg_D) (r0 : Nat) (sz : Nat) (q_d_pips : Nat → Int32) (q_d_many : Nat → Int32) (q_d_berths : Int32) (q_d_goal : Int32) (hs : fX2_init = some (q_d_pips, q_d_many, q_d_berths, q_d_goal)) : Met l yX2_init [Cond.code yX2_init cX2_init 1 none] (tg_rmN 2 42 4 25) (tg_PreN D [(r0, .inr (2, [.null, .int 0, .null, .int 0, .int 0, .int 0, .int 0, .int 0, .int 0, .int 0, .int 0]))] sz [.ref r0]) (tg_QN (fun w1 => ∃ e0 e1 e2 z0 : Nat, w1 = tw_RI D r0 e0 e1 e2 z0 0 0 0 0 0 0 0 0 0 q_d_pips q_d_many q_d_berths q_d_goal) D (va_A [(r0, .inr (2, [.null, .int 0, .null, .int 0, .int 0, .int 0, .int 0, .int 0, .int 0, .int 0, .int 0]))] sz)) 4 25 (va_A [(r0, .inr (2, [.null, .int 0, .null, .int 0, .int 0, .int 0, .int 0, .int 0, .int 0, .int 0, .int 0]))] sz) := tg_metN (by decide) rfl (Nat.le_of_ble_eq_true rfl) (fun X hl0 C V hA hin hE => vX2_init l D r0 X hl0 C V hA hin q_d_pips q_d_many q_d_berths q_d_goal hs hE)
set_option maxHeartbeats 4000000 in
set_option maxRecDepth 20000 in
theorem vX0_init (l : Launch) (D : tg_D) (b0 : Nat) (X : tg_X) (hl0 : tg_l X = l) (C : tg_C X D 1 cX0_init RX0 1 12 4 864) (V : tg_V X) (hA : ∀ q, (tg_s X).heap.size ≤ q → tg_A X q) (hin : (tg_h X).name = "<init>") (hE : tg_EN X D 4 864 cX0_init (fun w1 => ∃ b1 b2 b3 b4 : Nat, w1 = tw_A D b0 b1 b2 b3 b4 (fun _ => 0) (fun _ => 0) (fun _ => 0) (fun _ => 0) 0 0)) : tg_G X D 1 0 0 [(b0, .inr (0, [.null, .null, .null, .null, .int 0, .int 0]))] [(0, .ref b0)] 0 [] := by
  refine tg_aload_n C dX0_init_0 rfl 0 rfl ?_
  refine tg_oinit C wm_162 wm_77 wm_78 ⟨Nat.le_of_ble_eq_true rfl, Nat.le_of_ble_eq_true rfl⟩ dX0_init_1 ?_
  refine tg_aload_n C dX0_init_4 rfl 0 rfl ?_
  refine tg_sipush (v := 216) C dX0_init_5 (by decide) ?_
  refine tg_newa (N := 216) (atype := .int) (ty := .int) C V hA rfl wm_112 0 rfl (fun _ h => by cases h) (fun _ => rfl) (by decide) (by decide) (by decide) ⟨by decide, by decide⟩ dX0_init_8 (fun b1 => ?_)
  refine tg_wsE (ws' := [(b0, .inr (0, [.null, .null, .null, .null, .int 0, .int 0])), (b1, .inl (D.2 0, 216, .inl (fun _ => 0)))]) rfl ?_
  refine tg_putF (ws' := [(b0, .inr (0, [.ref b1, .null, .null, .null, .int 0, .int 0])), (b1, .inl (D.2 0, 216, .inl (fun _ => 0)))]) C V hin cfX0 0 rfl 0 (by decide) wm_163 rfl rfl rfl rfl (Nat.le_of_ble_eq_true rfl) rfl dX0_init_10 ?_
  refine tg_aload_n C dX0_init_13 rfl 0 rfl ?_
  refine tg_sipush (v := 216) C dX0_init_14 (by decide) ?_
  refine tg_newa (N := 216) (atype := .int) (ty := .int) C V hA rfl wm_112 0 rfl (fun _ h => by cases h) (fun _ => rfl) (by decide) (by decide) (by decide) ⟨by decide, by decide⟩ dX0_init_17 (fun b2 => ?_)
  refine tg_wsE (ws' := [(b0, .inr (0, [.ref b1, .null, .null, .null, .int 0, .int 0])), (b1, .inl (D.2 0, 216, .inl (fun _ => 0))), (b2, .inl (D.2 0, 216, .inl (fun _ => 0)))]) rfl ?_
  refine tg_putF (ws' := [(b0, .inr (0, [.ref b1, .ref b2, .null, .null, .int 0, .int 0])), (b1, .inl (D.2 0, 216, .inl (fun _ => 0))), (b2, .inl (D.2 0, 216, .inl (fun _ => 0)))]) C V hin cfX0 0 rfl 1 (by decide) wm_164 rfl rfl rfl rfl (Nat.le_of_ble_eq_true rfl) rfl dX0_init_19 ?_
  refine tg_aload_n C dX0_init_22 rfl 0 rfl ?_
  refine tg_sipush (v := 216) C dX0_init_23 (by decide) ?_
  refine tg_newa (N := 216) (atype := .int) (ty := .int) C V hA rfl wm_112 0 rfl (fun _ h => by cases h) (fun _ => rfl) (by decide) (by decide) (by decide) ⟨by decide, by decide⟩ dX0_init_26 (fun b3 => ?_)
  refine tg_wsE (ws' := [(b0, .inr (0, [.ref b1, .ref b2, .null, .null, .int 0, .int 0])), (b1, .inl (D.2 0, 216, .inl (fun _ => 0))), (b2, .inl (D.2 0, 216, .inl (fun _ => 0))), (b3, .inl (D.2 0, 216, .inl (fun _ => 0)))]) rfl ?_
  refine tg_putF (ws' := [(b0, .inr (0, [.ref b1, .ref b2, .ref b3, .null, .int 0, .int 0])), (b1, .inl (D.2 0, 216, .inl (fun _ => 0))), (b2, .inl (D.2 0, 216, .inl (fun _ => 0))), (b3, .inl (D.2 0, 216, .inl (fun _ => 0)))]) C V hin cfX0 0 rfl 2 (by decide) wm_165 rfl rfl rfl rfl (Nat.le_of_ble_eq_true rfl) rfl dX0_init_28 ?_
  refine tg_aload_n C dX0_init_31 rfl 0 rfl ?_
  refine tg_sipush (v := 216) C dX0_init_32 (by decide) ?_
  refine tg_newa (N := 216) (atype := .boolean) (ty := .boolean) C V hA rfl wm_184 1 rfl (fun _ h => by cases h) (fun _ => rfl) (by decide) (by decide) (by decide) ⟨by decide, by decide⟩ dX0_init_35 (fun b4 => ?_)
  refine tg_wsE (ws' := [(b0, .inr (0, [.ref b1, .ref b2, .ref b3, .null, .int 0, .int 0])), (b1, .inl (D.2 0, 216, .inl (fun _ => 0))), (b2, .inl (D.2 0, 216, .inl (fun _ => 0))), (b3, .inl (D.2 0, 216, .inl (fun _ => 0))), (b4, .inl (D.2 1, 216, .inl (fun _ => 0)))]) rfl ?_
  refine tg_putF (ws' := [(b0, .inr (0, [.ref b1, .ref b2, .ref b3, .ref b4, .int 0, .int 0])), (b1, .inl (D.2 0, 216, .inl (fun _ => 0))), (b2, .inl (D.2 0, 216, .inl (fun _ => 0))), (b3, .inl (D.2 0, 216, .inl (fun _ => 0))), (b4, .inl (D.2 1, 216, .inl (fun _ => 0)))]) C V hin cfX0 0 rfl 3 (by decide) wm_166 rfl rfl rfl rfl (Nat.le_of_ble_eq_true rfl) rfl dX0_init_37 ?_
  refine tg_perm (ws' := (tw_A D b0 b1 b2 b3 b4 (fun _ => 0) (fun _ => 0) (fun _ => 0) (fun _ => 0) 0 0)) [0, 1, 2, 3, 4] rfl (by decide) ?_
  refine tg_widen (k2 := 4) (n2 := 864) (by decide) (by decide) ?_
  exact tg_vretN hE ⟨b1, b2, b3, b4, rfl⟩ dX0_init_40
set_option maxHeartbeats 4000000 in
set_option maxRecDepth 20000 in
theorem kX0_init (l : Launch) (D : tg_D) (b0 : Nat) (sz : Nat) : Met l yX0_init [Cond.code yX0_init cX0_init 1 none] (tg_rmN 1 12 4 864) (tg_PreN D [(b0, .inr (0, [.null, .null, .null, .null, .int 0, .int 0]))] sz [.ref b0]) (tg_QN (fun w1 => ∃ b1 b2 b3 b4 : Nat, w1 = tw_A D b0 b1 b2 b3 b4 (fun _ => 0) (fun _ => 0) (fun _ => 0) (fun _ => 0) 0 0) D (va_A [(b0, .inr (0, [.null, .null, .null, .null, .int 0, .int 0]))] sz)) 4 864 (va_A [(b0, .inr (0, [.null, .null, .null, .null, .int 0, .int 0]))] sz) := tg_metN (by decide) rfl (Nat.le_of_ble_eq_true rfl) (fun X hl0 C V hA hin hE => vX0_init l D b0 X hl0 C V hA hin   hE)
def fX1_init : Option ((Nat → Int32) × Int32) := tg_b2 (fX1_begin (fun _ => 0)) fun gg1 gg2 => some (gg1, gg2)
set_option maxHeartbeats 4000000 in
set_option maxRecDepth 20000 in
theorem vX1_init (l : Launch) (D : tg_D) (c0 t0 t1 t2 : Nat) (t_pips : Nat → Int32) (t_many : Nat → Int32) (t_berths : Int32) (t_goal : Int32) (X : tg_X) (hl0 : tg_l X = l) (C : tg_C X D 2 cX1_init RX1 1 21 2 117) (V : tg_V X) (hA : ∀ q, (tg_s X).heap.size ≤ q → tg_A X q) (hin : (tg_h X).name = "<init>") (q_c_at : Nat → Int32) (q_c_known : Int32) (hs : fX1_init = some (q_c_at, q_c_known)) (hE : tg_EN X D 2 117 cX1_init (fun w1 => ∃ c1 c2 : Nat, w1 = tw_C D c0 c1 c2 t0 t1 t2 q_c_at (fun _ => 0) q_c_known t_pips t_many t_berths t_goal)) : tg_G X D 2 0 0 [(c0, .inr (1, [.null, .null, .null, .int 0])), (t0, .inr (3, [.ref t1, .ref t2, .int t_berths, .int t_goal])), (t1, .inl (D.2 0, 18, .inl t_pips)), (t2, .inl (D.2 0, 3, .inl t_many))] [(0, .ref c0), (1, .ref t0)] 0 [] := by
  unfold fX1_init at hs
  refine tg_aload_n C dX1_init_0 rfl 0 rfl ?_
  refine tg_oinit C wm_190 wm_77 wm_78 ⟨Nat.le_of_ble_eq_true rfl, Nat.le_of_ble_eq_true rfl⟩ dX1_init_1 ?_
  refine tg_aload_n C dX1_init_4 rfl 0 rfl ?_
  refine tg_aload_n C dX1_init_5 rfl 1 rfl ?_
  refine tg_putF (ws' := [(c0, .inr (1, [.ref t0, .null, .null, .int 0])), (t0, .inr (3, [.ref t1, .ref t2, .int t_berths, .int t_goal])), (t1, .inl (D.2 0, 18, .inl t_pips)), (t2, .inl (D.2 0, 3, .inl t_many))]) C V hin cfX1 0 rfl 0 (by decide) wm_195 rfl rfl rfl rfl (Nat.le_of_ble_eq_true rfl) rfl dX1_init_6 ?_
  refine tg_aload_n C dX1_init_9 rfl 0 rfl ?_
  refine tg_bipush (v := 9) C dX1_init_10 (by decide) ?_
  refine tg_newa (N := 9) (atype := .int) (ty := .int) C V hA rfl wm_112 0 rfl (fun _ h => by cases h) (fun _ => rfl) (by decide) (by decide) (by decide) ⟨by decide, by decide⟩ dX1_init_12 (fun c1 => ?_)
  refine tg_wsE (ws' := [(c0, .inr (1, [.ref t0, .null, .null, .int 0])), (t0, .inr (3, [.ref t1, .ref t2, .int t_berths, .int t_goal])), (t1, .inl (D.2 0, 18, .inl t_pips)), (t2, .inl (D.2 0, 3, .inl t_many)), (c1, .inl (D.2 0, 9, .inl (fun _ => 0)))]) rfl ?_
  refine tg_putF (ws' := [(c0, .inr (1, [.ref t0, .ref c1, .null, .int 0])), (t0, .inr (3, [.ref t1, .ref t2, .int t_berths, .int t_goal])), (t1, .inl (D.2 0, 18, .inl t_pips)), (t2, .inl (D.2 0, 3, .inl t_many)), (c1, .inl (D.2 0, 9, .inl (fun _ => 0)))]) C V hin cfX1 0 rfl 1 (by decide) wm_196 rfl rfl rfl rfl (Nat.le_of_ble_eq_true rfl) rfl dX1_init_14 ?_
  refine tg_aload_n C dX1_init_17 rfl 0 rfl ?_
  refine tg_bipush (v := 108) C dX1_init_18 (by decide) ?_
  refine tg_newa (N := 108) (atype := .int) (ty := .int) C V hA rfl wm_112 0 rfl (fun _ h => by cases h) (fun _ => rfl) (by decide) (by decide) (by decide) ⟨by decide, by decide⟩ dX1_init_20 (fun c2 => ?_)
  refine tg_wsE (ws' := [(c0, .inr (1, [.ref t0, .ref c1, .null, .int 0])), (t0, .inr (3, [.ref t1, .ref t2, .int t_berths, .int t_goal])), (t1, .inl (D.2 0, 18, .inl t_pips)), (t2, .inl (D.2 0, 3, .inl t_many)), (c1, .inl (D.2 0, 9, .inl (fun _ => 0))), (c2, .inl (D.2 0, 108, .inl (fun _ => 0)))]) rfl ?_
  refine tg_putF (ws' := [(c0, .inr (1, [.ref t0, .ref c1, .ref c2, .int 0])), (t0, .inr (3, [.ref t1, .ref t2, .int t_berths, .int t_goal])), (t1, .inl (D.2 0, 18, .inl t_pips)), (t2, .inl (D.2 0, 3, .inl t_many)), (c1, .inl (D.2 0, 9, .inl (fun _ => 0))), (c2, .inl (D.2 0, 108, .inl (fun _ => 0)))]) C V hin cfX1 0 rfl 2 (by decide) wm_197 rfl rfl rfl rfl (Nat.le_of_ble_eq_true rfl) rfl dX1_init_22 ?_
  refine tg_aload_n C dX1_init_25 rfl 0 rfl ?_
  obtain ⟨gg1, gg2, ee3, hs⟩ := tg_b2_e hs
  refine tg_eV (ws' := [(c0, .inr (1, [.ref t0, .ref c1, .ref c2, .int gg2])), (t0, .inr (3, [.ref t1, .ref t2, .int t_berths, .int t_goal])), (t1, .inl (D.2 0, 18, .inl t_pips)), (t2, .inl (D.2 0, 3, .inl t_many)), (c1, .inl (D.2 0, 9, .inl gg1)), (c2, .inl (D.2 0, 108, .inl (fun _ => 0)))]) (As := []) (rest := []) C V hl0 (kX1_begin l D c0 c1 c2 t0 t1 t2 (fun _ => 0) (fun _ => 0) 0 t_pips t_many t_berths t_goal gg1 gg2 ee3) wm_191 meX1_begin (by decide) [0, 4, 5, 1, 2, 3] rfl (by decide) rfl rfl rfl rfl (Nat.le_of_ble_eq_true rfl) rfl rfl rfl dX1_init_26 ?_
  obtain ⟨rfl, rfl⟩ := tg_i2 hs
  refine tg_perm (ws' := (tw_C D c0 c1 c2 t0 t1 t2 gg1 (fun _ => 0) gg2 t_pips t_many t_berths t_goal)) [0, 4, 5, 1, 2, 3] rfl (by decide) ?_
  refine tg_widen (k2 := 2) (n2 := 117) (by decide) (by decide) ?_
  exact tg_vretN hE ⟨c1, c2, rfl⟩ dX1_init_29
set_option maxHeartbeats 4000000 in
set_option maxRecDepth 20000 in
theorem kX1_init (l : Launch) (D : tg_D) (c0 t0 t1 t2 : Nat) (t_pips : Nat → Int32) (t_many : Nat → Int32) (t_berths : Int32) (t_goal : Int32) (sz : Nat) (q_c_at : Nat → Int32) (q_c_known : Int32) (hs : fX1_init = some (q_c_at, q_c_known)) : Met l yX1_init [Cond.code yX1_init cX1_init 2 none] (tg_rmN 1 21 2 117) (tg_PreN D [(c0, .inr (1, [.null, .null, .null, .int 0])), (t0, .inr (3, [.ref t1, .ref t2, .int t_berths, .int t_goal])), (t1, .inl (D.2 0, 18, .inl t_pips)), (t2, .inl (D.2 0, 3, .inl t_many))] sz [.ref c0, .ref t0]) (tg_QN (fun w1 => ∃ c1 c2 : Nat, w1 = tw_C D c0 c1 c2 t0 t1 t2 q_c_at (fun _ => 0) q_c_known t_pips t_many t_berths t_goal) D (va_A [(c0, .inr (1, [.null, .null, .null, .int 0])), (t0, .inr (3, [.ref t1, .ref t2, .int t_berths, .int t_goal])), (t1, .inl (D.2 0, 18, .inl t_pips)), (t2, .inl (D.2 0, 3, .inl t_many))] sz)) 2 117 (va_A [(c0, .inr (1, [.null, .null, .null, .int 0])), (t0, .inr (3, [.ref t1, .ref t2, .int t_berths, .int t_goal])), (t1, .inl (D.2 0, 18, .inl t_pips)), (t2, .inl (D.2 0, 3, .inl t_many))] sz) := tg_metN (by decide) rfl (Nat.le_of_ble_eq_true rfl) (fun X hl0 C V hA hin hE => vX1_init l D c0 t0 t1 t2 t_pips t_many t_berths t_goal X hl0 C V hA hin q_c_at q_c_known hs hE)
