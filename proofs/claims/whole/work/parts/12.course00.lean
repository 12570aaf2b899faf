def fX1_begin_L2 : Nat → (Nat → Int32) → Int32 → Option ((Nat → Int32) × Int32)
  | 0, _, _ => none
  | fuel + 1, c_at, n1 => if 9 ≤ n1 then (some (c_at, n1)) else (tg_ck n1 9 <| tg_nm (upd c_at (Int32.toNatClampNeg n1) 0) fun gg2 => tg_nm (n1 + 1) fun vv4 => fX1_begin_L2 fuel gg2 vv4)
def fX1_begin (c_at : Nat → Int32) : Option ((Nat → Int32) × Int32) := tg_b2 (fX1_begin_L2 400 c_at 0) fun vv5 vv6 => tg_nm (upd vv5 8 (-9)) fun gg8 => some (gg8, 0)
set_option maxHeartbeats 2000000 in
set_option maxRecDepth 20000 in
theorem vX1_begin_L2 (l : Launch) (D : tg_D) (c0 c1 c2 t0 t1 t2 : Nat) (c_past : Nat → Int32) (c_known : Int32) (t_pips : Nat → Int32) (t_many : Nat → Int32) (t_berths : Int32) (t_goal : Int32) (X : tg_X) (hl0 : tg_l X = l) (C : tg_C X D 2 cX1_begin RX1 0 0 0 0) (V : tg_V X) (o_c_at : Nat → Int32) (o_n1 : Int32) : ∀ (fuel : Nat) (c_at : Nat → Int32) (n1 : Int32), fX1_begin_L2 fuel c_at n1 = some (o_c_at, o_n1) → tg_G X D 2 0 0 (tw_C D c0 c1 c2 t0 t1 t2 o_c_at c_past c_known t_pips t_many t_berths t_goal) [(0, .ref c0), (1, .int o_n1)] 21 [] → tg_G X D 2 0 0 (tw_C D c0 c1 c2 t0 t1 t2 c_at c_past c_known t_pips t_many t_berths t_goal) [(0, .ref c0), (1, .int n1)] 2 [] := by
  intro fuel
  induction fuel with
  | zero =>
    intro c_at n1 hs _
    rw [fX1_begin_L2] at hs
    cases hs
  | succ fuel ih =>
    intro c_at n1 hs J
    rw [fX1_begin_L2] at hs
    refine tg_iload_n C dX1_begin_2 rfl 1 rfl ?_
    refine tg_bipush (v := 9) C dX1_begin_3 (by decide) ?_
    refine tg_icmp_ge (tgt := 21) C dX1_begin_5 (by decide) (fun cc1 => ?_) (fun cc1 => ?_)
    · have hs := tg_t cc1 hs
      obtain ⟨rfl, rfl⟩ := tg_i2 hs
      exact J
    · have hs := tg_f cc1 hs
      refine tg_aload_n C dX1_begin_8 rfl 0 rfl ?_
      refine tg_get (v := .ref c1) C cfX1 0 rfl 1 (by decide) wm_196 rfl dX1_begin_9 ?_
      refine tg_iload_n C dX1_begin_12 rfl 1 rfl ?_
      refine tg_iconst (v := 0) C dX1_begin_13 (by decide) ?_
      obtain ⟨hh3, hs⟩ := tg_ck_e hs
      obtain ⟨gg2, egg2, hs⟩ := tg_nm_e hs
      refine tg_iast (ws' := (tw_C D c0 c1 c2 t0 t1 t2 gg2 c_past c_known t_pips t_many t_berths t_goal)) C V 1 0 rfl rfl hh3 egg2 rfl dX1_begin_14 ?_
      obtain ⟨vv4, evv4, hs⟩ := tg_nm_e hs
      refine tg_iinc (v := vv4) (lv' := [(1, .int vv4), (0, .ref c0)]) C dX1_begin_15 1 rfl (by rw [evv4]; rfl) (by decide) rfl ?_
      refine tg_goto (tgt := 2) C dX1_begin_18 (by decide) ?_
      refine tg_lsub [1, 0] rfl ?_
      exact ih gg2 vv4 hs J
set_option maxHeartbeats 2000000 in
set_option maxRecDepth 20000 in
theorem vX1_begin (l : Launch) (D : tg_D) (c0 c1 c2 t0 t1 t2 : Nat) (c_at : Nat → Int32) (c_past : Nat → Int32) (c_known : Int32) (t_pips : Nat → Int32) (t_many : Nat → Int32) (t_berths : Int32) (t_goal : Int32) (X : tg_X) (hl0 : tg_l X = l) (C : tg_C X D 2 cX1_begin RX1 0 0 0 0) (V : tg_V X) (q_c_at : Nat → Int32) (q_c_known : Int32) (hs : fX1_begin c_at = some (q_c_at, q_c_known)) (hE : tg_Ev X D 0 0 cX1_begin (tw_C D c0 c1 c2 t0 t1 t2 q_c_at c_past q_c_known t_pips t_many t_berths t_goal)) : tg_G X D 2 0 0 (tw_C D c0 c1 c2 t0 t1 t2 c_at c_past c_known t_pips t_many t_berths t_goal) [(0, .ref c0)] 0 [] := by
  unfold fX1_begin at hs
  refine tg_iconst (v := 0) C dX1_begin_0 (by decide) ?_
  refine tg_istore_n (lv' := [(1, .int 0), (0, .ref c0)]) C dX1_begin_1 rfl (by decide) rfl ?_
  refine tg_lsub [1, 0] rfl ?_
  obtain ⟨vv5, vv6, ee7, hs⟩ := tg_b2_e hs
  refine vX1_begin_L2 l D c0 c1 c2 t0 t1 t2 c_past c_known t_pips t_many t_berths t_goal X hl0 C V vv5 vv6 400 c_at 0 ee7 ?_
  refine tg_aload_n C dX1_begin_21 rfl 0 rfl ?_
  refine tg_get (v := .ref c1) C cfX1 0 rfl 1 (by decide) wm_196 rfl dX1_begin_22 ?_
  refine tg_bipush (v := 8) C dX1_begin_25 (by decide) ?_
  refine tg_bipush (v := (-9)) C dX1_begin_27 (by decide) ?_
  obtain ⟨gg8, egg8, hs⟩ := tg_nm_e hs
  refine tg_iast (ws' := (tw_C D c0 c1 c2 t0 t1 t2 gg8 c_past c_known t_pips t_many t_berths t_goal)) C V 1 0 rfl rfl (tg_vin (by decide)) (by rw [egg8]; rfl) rfl dX1_begin_29 ?_
  refine tg_aload_n C dX1_begin_30 rfl 0 rfl ?_
  refine tg_iconst (v := 0) C dX1_begin_31 (by decide) ?_
  refine tg_put (ws' := (tw_C D c0 c1 c2 t0 t1 t2 gg8 c_past 0 t_pips t_many t_berths t_goal)) C V cfX1 0 rfl 3 (by decide) wm_198 rfl rfl rfl (Nat.le_of_ble_eq_true rfl) rfl dX1_begin_32 ?_
  obtain ⟨rfl, rfl⟩ := tg_i2 hs
  exact tg_vret hE dX1_begin_35
set_option maxHeartbeats 2000000 in
set_option maxRecDepth 20000 in
theorem kX1_begin (l : Launch) (D : tg_D) (c0 c1 c2 t0 t1 t2 : Nat) (c_at : Nat → Int32) (c_past : Nat → Int32) (c_known : Int32) (t_pips : Nat → Int32) (t_many : Nat → Int32) (t_berths : Int32) (t_goal : Int32) (q_c_at : Nat → Int32) (q_c_known : Int32) (hs : fX1_begin c_at = some (q_c_at, q_c_known)) : Met l yX1_begin [Cond.code yX1_begin cX1_begin 2 none] (tg_rm 0 0) (tg_Pre D (tw_C D c0 c1 c2 t0 t1 t2 c_at c_past c_known t_pips t_many t_berths t_goal) [.ref c0]) (tg_Qe none D (tw_C D c0 c1 c2 t0 t1 t2 q_c_at c_past q_c_known t_pips t_many t_berths t_goal) (tg_Ad (tw_C D c0 c1 c2 t0 t1 t2 c_at c_past c_known t_pips t_many t_berths t_goal))) 0 0 (tg_Ad (tw_C D c0 c1 c2 t0 t1 t2 c_at c_past c_known t_pips t_many t_berths t_goal)) := tg_metEv (by decide) (Nat.le_of_ble_eq_true rfl) (fun X hl0 C V hE => vX1_begin l D c0 c1 c2 t0 t1 t2 c_at c_past c_known t_pips t_many t_berths t_goal X hl0 C V q_c_at q_c_known hs hE)
def fX1_becomes (c_at : Nat → Int32) (c_past : Nat → Int32) (g_at : Nat → Int32) (g_past : Nat → Int32) (g_known : Int32) : Option ((Nat → Int32) × (Nat → Int32) × Int32) := tg_cp 0 0 9 9 9 <| tg_nm (va_cpy g_at c_at (Int32.toNatClampNeg 0) (Int32.toNatClampNeg 0) (Int32.toNatClampNeg 9)) fun gg2 => tg_cp 0 0 108 108 108 <| tg_nm (va_cpy g_past c_past (Int32.toNatClampNeg 0) (Int32.toNatClampNeg 0) (Int32.toNatClampNeg 108)) fun gg4 => some (gg2, gg4, g_known)
set_option maxHeartbeats 2000000 in
set_option maxRecDepth 20000 in
theorem vX1_becomes (l : Launch) (D : tg_D) (c0 c1 c2 g0 g1 g2 t0 : Nat) (c_at : Nat → Int32) (c_past : Nat → Int32) (c_known : Int32) (g_at : Nat → Int32) (g_past : Nat → Int32) (g_known : Int32) (X : tg_X) (hl0 : tg_l X = l) (C : tg_C X D 2 cX1_becomes RX1 1 18 0 0) (V : tg_V X) (q_c_at : Nat → Int32) (q_c_past : Nat → Int32) (q_c_known : Int32) (hs : fX1_becomes c_at c_past g_at g_past g_known = some (q_c_at, q_c_past, q_c_known)) (hE : tg_Ev X D 0 0 cX1_becomes (tw_CC D c0 c1 c2 g0 g1 g2 t0 q_c_at q_c_past q_c_known g_at g_past g_known)) : tg_G X D 2 0 0 (tw_CC D c0 c1 c2 g0 g1 g2 t0 c_at c_past c_known g_at g_past g_known) [(0, .ref c0), (1, .ref g0)] 0 [] := by
  unfold fX1_becomes at hs
  refine tg_aload_n C dX1_becomes_0 rfl 1 rfl ?_
  refine tg_get (v := .ref g1) C cfX1 3 rfl 1 (by decide) wm_196 rfl dX1_becomes_1 ?_
  refine tg_iconst (v := 0) C dX1_becomes_4 (by decide) ?_
  refine tg_aload_n C dX1_becomes_5 rfl 0 rfl ?_
  refine tg_get (v := .ref c1) C cfX1 0 rfl 1 (by decide) wm_196 rfl dX1_becomes_6 ?_
  refine tg_iconst (v := 0) C dX1_becomes_9 (by decide) ?_
  refine tg_bipush (v := 9) C dX1_becomes_10 (by decide) ?_
  obtain ⟨hh1, hs⟩ := tg_cp_e hs
  obtain ⟨gg2, egg2, hs⟩ := tg_nm_e hs
  refine tg_copy (ws' := (tw_CC D c0 c1 c2 g0 g1 g2 t0 gg2 c_past c_known g_at g_past g_known)) C V wm_437 wm_346 wm_345 wm_69 4 1 0 0 rfl rfl rfl rfl hh1 egg2 rfl ⟨Nat.le_of_ble_eq_true rfl, Nat.le_of_ble_eq_true rfl⟩ dX1_becomes_12 ?_
  refine tg_aload_n C dX1_becomes_15 rfl 1 rfl ?_
  refine tg_get (v := .ref g2) C cfX1 3 rfl 2 (by decide) wm_197 rfl dX1_becomes_16 ?_
  refine tg_iconst (v := 0) C dX1_becomes_19 (by decide) ?_
  refine tg_aload_n C dX1_becomes_20 rfl 0 rfl ?_
  refine tg_get (v := .ref c2) C cfX1 0 rfl 2 (by decide) wm_197 rfl dX1_becomes_21 ?_
  refine tg_iconst (v := 0) C dX1_becomes_24 (by decide) ?_
  refine tg_aload_n C dX1_becomes_25 rfl 0 rfl ?_
  refine tg_get (v := .ref c2) C cfX1 0 rfl 2 (by decide) wm_197 rfl dX1_becomes_26 ?_
  refine tg_alen (v := 108) C 2 0 rfl rfl rfl dX1_becomes_29 ?_
  obtain ⟨hh3, hs⟩ := tg_cp_e hs
  obtain ⟨gg4, egg4, hs⟩ := tg_nm_e hs
  refine tg_copy (ws' := (tw_CC D c0 c1 c2 g0 g1 g2 t0 gg2 gg4 c_known g_at g_past g_known)) C V wm_437 wm_346 wm_345 wm_69 5 2 0 0 rfl rfl rfl rfl hh3 egg4 rfl ⟨Nat.le_of_ble_eq_true rfl, Nat.le_of_ble_eq_true rfl⟩ dX1_becomes_30 ?_
  refine tg_aload_n C dX1_becomes_33 rfl 0 rfl ?_
  refine tg_aload_n C dX1_becomes_34 rfl 1 rfl ?_
  refine tg_get (v := .int g_known) C cfX1 3 rfl 3 (by decide) wm_198 rfl dX1_becomes_35 ?_
  refine tg_put (ws' := (tw_CC D c0 c1 c2 g0 g1 g2 t0 gg2 gg4 g_known g_at g_past g_known)) C V cfX1 0 rfl 3 (by decide) wm_198 rfl rfl rfl (Nat.le_of_ble_eq_true rfl) rfl dX1_becomes_38 ?_
  obtain ⟨rfl, rfl, rfl⟩ := tg_i3 hs
  exact tg_vret hE dX1_becomes_41
set_option maxHeartbeats 2000000 in
set_option maxRecDepth 20000 in
theorem kX1_becomes (l : Launch) (D : tg_D) (c0 c1 c2 g0 g1 g2 t0 : Nat) (c_at : Nat → Int32) (c_past : Nat → Int32) (c_known : Int32) (g_at : Nat → Int32) (g_past : Nat → Int32) (g_known : Int32) (q_c_at : Nat → Int32) (q_c_past : Nat → Int32) (q_c_known : Int32) (hs : fX1_becomes c_at c_past g_at g_past g_known = some (q_c_at, q_c_past, q_c_known)) : Met l yX1_becomes [Cond.code yX1_becomes cX1_becomes 2 none] (tg_rm 1 18) (tg_Pre D (tw_CC D c0 c1 c2 g0 g1 g2 t0 c_at c_past c_known g_at g_past g_known) [.ref c0, .ref g0]) (tg_Qe none D (tw_CC D c0 c1 c2 g0 g1 g2 t0 q_c_at q_c_past q_c_known g_at g_past g_known) (tg_Ad (tw_CC D c0 c1 c2 g0 g1 g2 t0 c_at c_past c_known g_at g_past g_known))) 0 0 (tg_Ad (tw_CC D c0 c1 c2 g0 g1 g2 t0 c_at c_past c_known g_at g_past g_known)) := tg_metEv (by decide) (Nat.le_of_ble_eq_true rfl) (fun X hl0 C V hE => vX1_becomes l D c0 c1 c2 g0 g1 g2 t0 c_at c_past c_known g_at g_past g_known X hl0 C V q_c_at q_c_past q_c_known hs hE)
def fX1_loseOldest_L3 : Nat → (Nat → Int32) → Int32 → Option ((Nat → Int32) × Int32)
  | 0, _, _ => none
  | fuel + 1, c_past, n1 => if 108 ≤ n1 then (some (c_past, n1)) else (tg_ck n1 108 <| tg_nm (c_past (Int32.toNatClampNeg n1)) fun vv3 => tg_ck (n1 - 9) 108 <| tg_nm (upd c_past (Int32.toNatClampNeg (n1 - 9)) vv3) fun gg4 => tg_nm (n1 + 1) fun vv6 => fX1_loseOldest_L3 fuel gg4 vv6)
def fX1_loseOldest (c_past : Nat → Int32) : Option ((Nat → Int32) × Int32) := tg_b2 (fX1_loseOldest_L3 400 c_past 9) fun vv7 vv8 => some (vv7, 11)
set_option maxHeartbeats 2000000 in
set_option maxRecDepth 20000 in
theorem vX1_loseOldest_L3 (l : Launch) (D : tg_D) (c0 c1 c2 t0 t1 t2 : Nat) (c_at : Nat → Int32) (c_known : Int32) (t_pips : Nat → Int32) (t_many : Nat → Int32) (t_berths : Int32) (t_goal : Int32) (X : tg_X) (hl0 : tg_l X = l) (C : tg_C X D 2 cX1_loseOldest RX1 0 0 0 0) (V : tg_V X) (o_c_past : Nat → Int32) (o_n1 : Int32) : ∀ (fuel : Nat) (c_past : Nat → Int32) (n1 : Int32), fX1_loseOldest_L3 fuel c_past n1 = some (o_c_past, o_n1) → tg_G X D 2 0 0 (tw_C D c0 c1 c2 t0 t1 t2 c_at o_c_past c_known t_pips t_many t_berths t_goal) [(0, .ref c0), (1, .int o_n1)] 33 [] → tg_G X D 2 0 0 (tw_C D c0 c1 c2 t0 t1 t2 c_at c_past c_known t_pips t_many t_berths t_goal) [(0, .ref c0), (1, .int n1)] 3 [] := by
  intro fuel
  induction fuel with
  | zero =>
    intro c_past n1 hs _
    rw [fX1_loseOldest_L3] at hs
    cases hs
  | succ fuel ih =>
    intro c_past n1 hs J
    rw [fX1_loseOldest_L3] at hs
    refine tg_iload_n C dX1_loseOldest_3 rfl 1 rfl ?_
    refine tg_aload_n C dX1_loseOldest_4 rfl 0 rfl ?_
    refine tg_get (v := .ref c2) C cfX1 0 rfl 2 (by decide) wm_197 rfl dX1_loseOldest_5 ?_
    refine tg_alen (v := 108) C 2 0 rfl rfl rfl dX1_loseOldest_8 ?_
    refine tg_icmp_ge (tgt := 33) C dX1_loseOldest_9 (by decide) (fun cc1 => ?_) (fun cc1 => ?_)
    · have hs := tg_t cc1 hs
      obtain ⟨rfl, rfl⟩ := tg_i2 hs
      exact J
    · have hs := tg_f cc1 hs
      refine tg_aload_n C dX1_loseOldest_12 rfl 0 rfl ?_
      refine tg_get (v := .ref c2) C cfX1 0 rfl 2 (by decide) wm_197 rfl dX1_loseOldest_13 ?_
      refine tg_iload_n C dX1_loseOldest_16 rfl 1 rfl ?_
      refine tg_bipush (v := 9) C dX1_loseOldest_17 (by decide) ?_
      refine tg_isub C dX1_loseOldest_19 ?_
      refine tg_aload_n C dX1_loseOldest_20 rfl 0 rfl ?_
      refine tg_get (v := .ref c2) C cfX1 0 rfl 2 (by decide) wm_197 rfl dX1_loseOldest_21 ?_
      refine tg_iload_n C dX1_loseOldest_24 rfl 1 rfl ?_
      obtain ⟨hh2, hs⟩ := tg_ck_e hs
      refine tg_iald C 2 0 rfl rfl hh2 dX1_loseOldest_25 ?_
      obtain ⟨vv3, evv3, hs⟩ := tg_nm_e hs
      refine tg_topi evv3 ?_
      obtain ⟨hh5, hs⟩ := tg_ck_e hs
      obtain ⟨gg4, egg4, hs⟩ := tg_nm_e hs
      refine tg_iast (ws' := (tw_C D c0 c1 c2 t0 t1 t2 c_at gg4 c_known t_pips t_many t_berths t_goal)) C V 2 0 rfl rfl hh5 egg4 rfl dX1_loseOldest_26 ?_
      obtain ⟨vv6, evv6, hs⟩ := tg_nm_e hs
      refine tg_iinc (v := vv6) (lv' := [(1, .int vv6), (0, .ref c0)]) C dX1_loseOldest_27 1 rfl (by rw [evv6]; rfl) (by decide) rfl ?_
      refine tg_goto (tgt := 3) C dX1_loseOldest_30 (by decide) ?_
      refine tg_lsub [1, 0] rfl ?_
      exact ih gg4 vv6 hs J
set_option maxHeartbeats 2000000 in
set_option maxRecDepth 20000 in
theorem vX1_loseOldest (l : Launch) (D : tg_D) (c0 c1 c2 t0 t1 t2 : Nat) (c_at : Nat → Int32) (c_past : Nat → Int32) (c_known : Int32) (t_pips : Nat → Int32) (t_many : Nat → Int32) (t_berths : Int32) (t_goal : Int32) (X : tg_X) (hl0 : tg_l X = l) (C : tg_C X D 2 cX1_loseOldest RX1 0 0 0 0) (V : tg_V X) (q_c_past : Nat → Int32) (q_c_known : Int32) (hs : fX1_loseOldest c_past = some (q_c_past, q_c_known)) (hE : tg_Ev X D 0 0 cX1_loseOldest (tw_C D c0 c1 c2 t0 t1 t2 c_at q_c_past q_c_known t_pips t_many t_berths t_goal)) : tg_G X D 2 0 0 (tw_C D c0 c1 c2 t0 t1 t2 c_at c_past c_known t_pips t_many t_berths t_goal) [(0, .ref c0)] 0 [] := by
  unfold fX1_loseOldest at hs
  refine tg_bipush (v := 9) C dX1_loseOldest_0 (by decide) ?_
  refine tg_istore_n (lv' := [(1, .int 9), (0, .ref c0)]) C dX1_loseOldest_2 rfl (by decide) rfl ?_
  refine tg_lsub [1, 0] rfl ?_
  obtain ⟨vv7, vv8, ee9, hs⟩ := tg_b2_e hs
  refine vX1_loseOldest_L3 l D c0 c1 c2 t0 t1 t2 c_at c_known t_pips t_many t_berths t_goal X hl0 C V vv7 vv8 400 c_past 9 ee9 ?_
  refine tg_aload_n C dX1_loseOldest_33 rfl 0 rfl ?_
  refine tg_bipush (v := 11) C dX1_loseOldest_34 (by decide) ?_
  refine tg_put (ws' := (tw_C D c0 c1 c2 t0 t1 t2 c_at vv7 11 t_pips t_many t_berths t_goal)) C V cfX1 0 rfl 3 (by decide) wm_198 rfl rfl rfl (Nat.le_of_ble_eq_true rfl) rfl dX1_loseOldest_36 ?_
  obtain ⟨rfl, rfl⟩ := tg_i2 hs
  exact tg_vret hE dX1_loseOldest_39
set_option maxHeartbeats 2000000 in
set_option maxRecDepth 20000 in
theorem kX1_loseOldest (l : Launch) (D : tg_D) (c0 c1 c2 t0 t1 t2 : Nat) (c_at : Nat → Int32) (c_past : Nat → Int32) (c_known : Int32) (t_pips : Nat → Int32) (t_many : Nat → Int32) (t_berths : Int32) (t_goal : Int32) (q_c_past : Nat → Int32) (q_c_known : Int32) (hs : fX1_loseOldest c_past = some (q_c_past, q_c_known)) : Met l yX1_loseOldest [Cond.code yX1_loseOldest cX1_loseOldest 2 none] (tg_rm 0 0) (tg_Pre D (tw_C D c0 c1 c2 t0 t1 t2 c_at c_past c_known t_pips t_many t_berths t_goal) [.ref c0]) (tg_Qe none D (tw_C D c0 c1 c2 t0 t1 t2 c_at q_c_past q_c_known t_pips t_many t_berths t_goal) (tg_Ad (tw_C D c0 c1 c2 t0 t1 t2 c_at c_past c_known t_pips t_many t_berths t_goal))) 0 0 (tg_Ad (tw_C D c0 c1 c2 t0 t1 t2 c_at c_past c_known t_pips t_many t_berths t_goal)) := tg_metEv (by decide) (Nat.le_of_ble_eq_true rfl) (fun X hl0 C V hE => vX1_loseOldest l D c0 c1 c2 t0 t1 t2 c_at c_past c_known t_pips t_many t_berths t_goal X hl0 C V q_c_past q_c_known hs hE)
def fX1_remember (c_at : Nat → Int32) (c_past : Nat → Int32) (c_known : Int32) : Option ((Nat → Int32) × Int32) := tg_b2 (if c_known < 12 then (some (c_past, c_known)) else (tg_b2 (fX1_loseOldest c_past) fun gg5 vv6 => some (gg5, vv6))) fun (vv2 : Nat → Int32) (vv3 : Int32) => tg_cp 0 (vv3 * 9) 9 9 108 <| tg_nm (va_cpy c_at vv2 (Int32.toNatClampNeg 0) (Int32.toNatClampNeg (vv3 * 9)) (Int32.toNatClampNeg 9)) fun gg9 => tg_nm (vv3 + 1) fun vv10 => some (gg9, vv10)
set_option maxHeartbeats 2000000 in
set_option maxRecDepth 20000 in
theorem vX1_remember (l : Launch) (D : tg_D) (c0 c1 c2 t0 t1 t2 : Nat) (c_at : Nat → Int32) (c_past : Nat → Int32) (c_known : Int32) (t_pips : Nat → Int32) (t_many : Nat → Int32) (t_berths : Int32) (t_goal : Int32) (X : tg_X) (hl0 : tg_l X = l) (C : tg_C X D 1 cX1_remember RX1 1 21 0 0) (V : tg_V X) (q_c_past : Nat → Int32) (q_c_known : Int32) (hs : fX1_remember c_at c_past c_known = some (q_c_past, q_c_known)) (hE : tg_Ev X D 0 0 cX1_remember (tw_C D c0 c1 c2 t0 t1 t2 c_at q_c_past q_c_known t_pips t_many t_berths t_goal)) : tg_G X D 1 0 0 (tw_C D c0 c1 c2 t0 t1 t2 c_at c_past c_known t_pips t_many t_berths t_goal) [(0, .ref c0)] 0 [] := by
  unfold fX1_remember at hs
  refine tg_aload_n C dX1_remember_0 rfl 0 rfl ?_
  refine tg_get (v := .int c_known) C cfX1 0 rfl 3 (by decide) wm_198 rfl dX1_remember_1 ?_
  refine tg_bipush (v := 12) C dX1_remember_4 (by decide) ?_
  obtain ⟨vv2, vv3, ee11, hs⟩ := tg_b2_e hs
  have JJ4 : tg_G X D 1 0 0 (tw_C D c0 c1 c2 t0 t1 t2 c_at vv2 vv3 t_pips t_many t_berths t_goal) [(0, .ref c0)] 13 [] := by
    refine tg_aload_n C dX1_remember_13 rfl 0 rfl ?_
    refine tg_get (v := .ref c1) C cfX1 0 rfl 1 (by decide) wm_196 rfl dX1_remember_14 ?_
    refine tg_iconst (v := 0) C dX1_remember_17 (by decide) ?_
    refine tg_aload_n C dX1_remember_18 rfl 0 rfl ?_
    refine tg_get (v := .ref c2) C cfX1 0 rfl 2 (by decide) wm_197 rfl dX1_remember_19 ?_
    refine tg_aload_n C dX1_remember_22 rfl 0 rfl ?_
    refine tg_get (v := .int vv3) C cfX1 0 rfl 3 (by decide) wm_198 rfl dX1_remember_23 ?_
    refine tg_bipush (v := 9) C dX1_remember_26 (by decide) ?_
    refine tg_imul C dX1_remember_28 ?_
    refine tg_bipush (v := 9) C dX1_remember_29 (by decide) ?_
    obtain ⟨hh8, hs⟩ := tg_cp_e hs
    obtain ⟨gg9, egg9, hs⟩ := tg_nm_e hs
    refine tg_copy (ws' := (tw_C D c0 c1 c2 t0 t1 t2 c_at gg9 vv3 t_pips t_many t_berths t_goal)) C V wm_437 wm_346 wm_345 wm_69 1 2 0 0 rfl rfl rfl rfl hh8 egg9 rfl ⟨Nat.le_of_ble_eq_true rfl, Nat.le_of_ble_eq_true rfl⟩ dX1_remember_31 ?_
    refine tg_aload_n C dX1_remember_34 rfl 0 rfl ?_
    refine tg_dup C dX1_remember_35 rfl ?_
    refine tg_get (v := .int vv3) C cfX1 0 rfl 3 (by decide) wm_198 rfl dX1_remember_36 ?_
    refine tg_iconst (v := 1) C dX1_remember_39 (by decide) ?_
    refine tg_iadd C dX1_remember_40 ?_
    obtain ⟨vv10, evv10, hs⟩ := tg_nm_e hs
    refine tg_topi evv10 ?_
    refine tg_put (ws' := (tw_C D c0 c1 c2 t0 t1 t2 c_at gg9 vv10 t_pips t_many t_berths t_goal)) C V cfX1 0 rfl 3 (by decide) wm_198 rfl rfl rfl (Nat.le_of_ble_eq_true rfl) rfl dX1_remember_41 ?_
    obtain ⟨rfl, rfl⟩ := tg_i2 hs
    exact tg_vret hE dX1_remember_44
  have hs := ee11
  clear ee11
  refine tg_icmp_lt (tgt := 13) C dX1_remember_6 (by decide) (fun cc1 => ?_) (fun cc1 => ?_)
  · have hs := tg_t cc1 hs
    obtain ⟨rfl, rfl⟩ := tg_i2 hs
    exact JJ4
  · have hs := tg_f cc1 hs
    refine tg_aload_n C dX1_remember_9 rfl 0 rfl ?_
    obtain ⟨gg5, vv6, ee7, hs⟩ := tg_b2_e hs
    refine tg_eVs (ws' := (tw_C D c0 c1 c2 t0 t1 t2 c_at gg5 vv6 t_pips t_many t_berths t_goal)) (As := []) (rest := []) C V hl0 (kX1_loseOldest l D c0 c1 c2 t0 t1 t2 c_at c_past c_known t_pips t_many t_berths t_goal gg5 vv6 ee7) wm_433 meX1_loseOldest (by decide) rfl rfl rfl rfl (Nat.le_of_ble_eq_true rfl) rfl dX1_remember_10 ?_
    obtain ⟨rfl, rfl⟩ := tg_i2 hs
    exact JJ4
set_option maxHeartbeats 2000000 in
set_option maxRecDepth 20000 in
theorem kX1_remember (l : Launch) (D : tg_D) (c0 c1 c2 t0 t1 t2 : Nat) (c_at : Nat → Int32) (c_past : Nat → Int32) (c_known : Int32) (t_pips : Nat → Int32) (t_many : Nat → Int32) (t_berths : Int32) (t_goal : Int32) (q_c_past : Nat → Int32) (q_c_known : Int32) (hs : fX1_remember c_at c_past c_known = some (q_c_past, q_c_known)) : Met l yX1_remember [Cond.code yX1_remember cX1_remember 1 none] (tg_rm 1 21) (tg_Pre D (tw_C D c0 c1 c2 t0 t1 t2 c_at c_past c_known t_pips t_many t_berths t_goal) [.ref c0]) (tg_Qe none D (tw_C D c0 c1 c2 t0 t1 t2 c_at q_c_past q_c_known t_pips t_many t_berths t_goal) (tg_Ad (tw_C D c0 c1 c2 t0 t1 t2 c_at c_past c_known t_pips t_many t_berths t_goal))) 0 0 (tg_Ad (tw_C D c0 c1 c2 t0 t1 t2 c_at c_past c_known t_pips t_many t_berths t_goal)) := tg_metEv (by decide) (Nat.le_of_ble_eq_true rfl) (fun X hl0 C V hE => vX1_remember l D c0 c1 c2 t0 t1 t2 c_at c_past c_known t_pips t_many t_berths t_goal X hl0 C V q_c_past q_c_known hs hE)
def fX1_stepBack (c_at : Nat → Int32) (c_past : Nat → Int32) (c_known : Int32) : Option ((Nat → Int32) × Int32) := if c_known ≤ 0 then (some (c_at, c_known)) else (tg_nm (c_known - 1) fun vv2 => tg_cp (vv2 * 9) 0 9 108 9 <| tg_nm (va_cpy c_past c_at (Int32.toNatClampNeg (vv2 * 9)) (Int32.toNatClampNeg 0) (Int32.toNatClampNeg 9)) fun gg4 => some (gg4, vv2))
set_option maxHeartbeats 2000000 in
set_option maxRecDepth 20000 in
theorem vX1_stepBack (l : Launch) (D : tg_D) (c0 c1 c2 t0 t1 t2 : Nat) (c_at : Nat → Int32) (c_past : Nat → Int32) (c_known : Int32) (t_pips : Nat → Int32) (t_many : Nat → Int32) (t_berths : Int32) (t_goal : Int32) (X : tg_X) (hl0 : tg_l X = l) (C : tg_C X D 1 cX1_stepBack RX1 1 18 0 0) (V : tg_V X) (q_c_at : Nat → Int32) (q_c_known : Int32) (hs : fX1_stepBack c_at c_past c_known = some (q_c_at, q_c_known)) (hE : tg_Ev X D 0 0 cX1_stepBack (tw_C D c0 c1 c2 t0 t1 t2 q_c_at c_past q_c_known t_pips t_many t_berths t_goal)) : tg_G X D 1 0 0 (tw_C D c0 c1 c2 t0 t1 t2 c_at c_past c_known t_pips t_many t_berths t_goal) [(0, .ref c0)] 0 [] := by
  unfold fX1_stepBack at hs
  refine tg_aload_n C dX1_stepBack_0 rfl 0 rfl ?_
  refine tg_get (v := .int c_known) C cfX1 0 rfl 3 (by decide) wm_198 rfl dX1_stepBack_1 ?_
  refine tg_if_le (tgt := 38) C dX1_stepBack_4 (by decide) (fun cc1 => ?_) (fun cc1 => ?_)
  · have hs := tg_t cc1 hs
    obtain ⟨rfl, rfl⟩ := tg_i2 hs
    exact tg_vret hE dX1_stepBack_38
  · have hs := tg_f cc1 hs
    refine tg_aload_n C dX1_stepBack_7 rfl 0 rfl ?_
    refine tg_dup C dX1_stepBack_8 rfl ?_
    refine tg_get (v := .int c_known) C cfX1 0 rfl 3 (by decide) wm_198 rfl dX1_stepBack_9 ?_
    refine tg_iconst (v := 1) C dX1_stepBack_12 (by decide) ?_
    refine tg_isub C dX1_stepBack_13 ?_
    obtain ⟨vv2, evv2, hs⟩ := tg_nm_e hs
    refine tg_topi evv2 ?_
    refine tg_put (ws' := (tw_C D c0 c1 c2 t0 t1 t2 c_at c_past vv2 t_pips t_many t_berths t_goal)) C V cfX1 0 rfl 3 (by decide) wm_198 rfl rfl rfl (Nat.le_of_ble_eq_true rfl) rfl dX1_stepBack_14 ?_
    refine tg_aload_n C dX1_stepBack_17 rfl 0 rfl ?_
    refine tg_get (v := .ref c2) C cfX1 0 rfl 2 (by decide) wm_197 rfl dX1_stepBack_18 ?_
    refine tg_aload_n C dX1_stepBack_21 rfl 0 rfl ?_
    refine tg_get (v := .int vv2) C cfX1 0 rfl 3 (by decide) wm_198 rfl dX1_stepBack_22 ?_
    refine tg_bipush (v := 9) C dX1_stepBack_25 (by decide) ?_
    refine tg_imul C dX1_stepBack_27 ?_
    refine tg_aload_n C dX1_stepBack_28 rfl 0 rfl ?_
    refine tg_get (v := .ref c1) C cfX1 0 rfl 1 (by decide) wm_196 rfl dX1_stepBack_29 ?_
    refine tg_iconst (v := 0) C dX1_stepBack_32 (by decide) ?_
    refine tg_bipush (v := 9) C dX1_stepBack_33 (by decide) ?_
    obtain ⟨hh3, hs⟩ := tg_cp_e hs
    obtain ⟨gg4, egg4, hs⟩ := tg_nm_e hs
    refine tg_copy (ws' := (tw_C D c0 c1 c2 t0 t1 t2 gg4 c_past vv2 t_pips t_many t_berths t_goal)) C V wm_437 wm_346 wm_345 wm_69 2 1 0 0 rfl rfl rfl rfl hh3 egg4 rfl ⟨Nat.le_of_ble_eq_true rfl, Nat.le_of_ble_eq_true rfl⟩ dX1_stepBack_35 ?_
    obtain ⟨rfl, rfl⟩ := tg_i2 hs
    exact tg_vret hE dX1_stepBack_38
set_option maxHeartbeats 2000000 in
set_option maxRecDepth 20000 in
theorem kX1_stepBack (l : Launch) (D : tg_D) (c0 c1 c2 t0 t1 t2 : Nat) (c_at : Nat → Int32) (c_past : Nat → Int32) (c_known : Int32) (t_pips : Nat → Int32) (t_many : Nat → Int32) (t_berths : Int32) (t_goal : Int32) (q_c_at : Nat → Int32) (q_c_known : Int32) (hs : fX1_stepBack c_at c_past c_known = some (q_c_at, q_c_known)) : Met l yX1_stepBack [Cond.code yX1_stepBack cX1_stepBack 1 none] (tg_rm 1 18) (tg_Pre D (tw_C D c0 c1 c2 t0 t1 t2 c_at c_past c_known t_pips t_many t_berths t_goal) [.ref c0]) (tg_Qe none D (tw_C D c0 c1 c2 t0 t1 t2 q_c_at c_past q_c_known t_pips t_many t_berths t_goal) (tg_Ad (tw_C D c0 c1 c2 t0 t1 t2 c_at c_past c_known t_pips t_many t_berths t_goal))) 0 0 (tg_Ad (tw_C D c0 c1 c2 t0 t1 t2 c_at c_past c_known t_pips t_many t_berths t_goal)) := tg_metEv (by decide) (Nat.le_of_ble_eq_true rfl) (fun X hl0 C V hE => vX1_stepBack l D c0 c1 c2 t0 t1 t2 c_at c_past c_known t_pips t_many t_berths t_goal X hl0 C V q_c_at q_c_known hs hE)
def fX1_berthsOf (c_at : Nat → Int32) (p1 : Int32) : Option (Int32) := tg_ck (0 + p1) 9 <| some (c_at (Int32.toNatClampNeg (0 + p1)))
set_option maxHeartbeats 2000000 in
set_option maxRecDepth 20000 in
theorem vX1_berthsOf (l : Launch) (D : tg_D) (c0 c1 c2 t0 t1 t2 : Nat) (c_at : Nat → Int32) (c_past : Nat → Int32) (c_known : Int32) (t_pips : Nat → Int32) (t_many : Nat → Int32) (t_berths : Int32) (t_goal : Int32) (p1 : Int32) (X : tg_X) (hl0 : tg_l X = l) (C : tg_C X D 2 cX1_berthsOf RX1 0 0 0 0) (r : Int32) (hs : fX1_berthsOf c_at p1 = some r) (hE : tg_Ei X D 0 0 cX1_berthsOf .int r (tw_C D c0 c1 c2 t0 t1 t2 c_at c_past c_known t_pips t_many t_berths t_goal)) : tg_G X D 2 0 0 (tw_C D c0 c1 c2 t0 t1 t2 c_at c_past c_known t_pips t_many t_berths t_goal) [(0, .ref c0), (1, .int p1)] 0 [] := by
  unfold fX1_berthsOf at hs
  refine tg_aload_n C dX1_berthsOf_0 rfl 0 rfl ?_
  refine tg_get (v := .ref c1) C cfX1 0 rfl 1 (by decide) wm_196 rfl dX1_berthsOf_1 ?_
  refine tg_iconst (v := 0) C dX1_berthsOf_4 (by decide) ?_
  refine tg_iload_n C dX1_berthsOf_5 rfl 1 rfl ?_
  refine tg_iadd C dX1_berthsOf_6 ?_
  obtain ⟨hh1, hs⟩ := tg_ck_e hs
  refine tg_iald C 1 0 rfl rfl hh1 dX1_berthsOf_7 ?_
  obtain rfl := Option.some.inj hs
  exact tg_iret hE rfl dX1_berthsOf_8
set_option maxHeartbeats 2000000 in
set_option maxRecDepth 20000 in
theorem kX1_berthsOf (l : Launch) (D : tg_D) (c0 c1 c2 t0 t1 t2 : Nat) (c_at : Nat → Int32) (c_past : Nat → Int32) (c_known : Int32) (t_pips : Nat → Int32) (t_many : Nat → Int32) (t_berths : Int32) (t_goal : Int32) (p1 : Int32) (r : Int32) (hs : fX1_berthsOf c_at p1 = some r) : Met l yX1_berthsOf [Cond.code yX1_berthsOf cX1_berthsOf 2 (some .int)] (tg_rm 0 0) (tg_Pre D (tw_C D c0 c1 c2 t0 t1 t2 c_at c_past c_known t_pips t_many t_berths t_goal) [.ref c0, .int p1]) (vp_Si (fun r' => r' = r)) 0 0 (fun _ => False) := tg_metI (by decide) (Nat.le_of_ble_eq_true rfl) (fun X hl0 C hE => vX1_berthsOf l D c0 c1 c2 t0 t1 t2 c_at c_past c_known t_pips t_many t_berths t_goal p1 X hl0 C r hs hE)
def fX1_tidesOf (c_at : Nat → Int32) (p1 : Int32) : Option (Int32) := tg_ck (2 + p1) 9 <| some (c_at (Int32.toNatClampNeg (2 + p1)))
set_option maxHeartbeats 2000000 in
set_option maxRecDepth 20000 in
theorem vX1_tidesOf (l : Launch) (D : tg_D) (c0 c1 c2 t0 t1 t2 : Nat) (c_at : Nat → Int32) (c_past : Nat → Int32) (c_known : Int32) (t_pips : Nat → Int32) (t_many : Nat → Int32) (t_berths : Int32) (t_goal : Int32) (p1 : Int32) (X : tg_X) (hl0 : tg_l X = l) (C : tg_C X D 2 cX1_tidesOf RX1 0 0 0 0) (r : Int32) (hs : fX1_tidesOf c_at p1 = some r) (hE : tg_Ei X D 0 0 cX1_tidesOf .int r (tw_C D c0 c1 c2 t0 t1 t2 c_at c_past c_known t_pips t_many t_berths t_goal)) : tg_G X D 2 0 0 (tw_C D c0 c1 c2 t0 t1 t2 c_at c_past c_known t_pips t_many t_berths t_goal) [(0, .ref c0), (1, .int p1)] 0 [] := by
  unfold fX1_tidesOf at hs
  refine tg_aload_n C dX1_tidesOf_0 rfl 0 rfl ?_
  refine tg_get (v := .ref c1) C cfX1 0 rfl 1 (by decide) wm_196 rfl dX1_tidesOf_1 ?_
  refine tg_iconst (v := 2) C dX1_tidesOf_4 (by decide) ?_
  refine tg_iload_n C dX1_tidesOf_5 rfl 1 rfl ?_
  refine tg_iadd C dX1_tidesOf_6 ?_
  obtain ⟨hh1, hs⟩ := tg_ck_e hs
  refine tg_iald C 1 0 rfl rfl hh1 dX1_tidesOf_7 ?_
  obtain rfl := Option.some.inj hs
  exact tg_iret hE rfl dX1_tidesOf_8
set_option maxHeartbeats 2000000 in
set_option maxRecDepth 20000 in
theorem kX1_tidesOf (l : Launch) (D : tg_D) (c0 c1 c2 t0 t1 t2 : Nat) (c_at : Nat → Int32) (c_past : Nat → Int32) (c_known : Int32) (t_pips : Nat → Int32) (t_many : Nat → Int32) (t_berths : Int32) (t_goal : Int32) (p1 : Int32) (r : Int32) (hs : fX1_tidesOf c_at p1 = some r) : Met l yX1_tidesOf [Cond.code yX1_tidesOf cX1_tidesOf 2 (some .int)] (tg_rm 0 0) (tg_Pre D (tw_C D c0 c1 c2 t0 t1 t2 c_at c_past c_known t_pips t_many t_berths t_goal) [.ref c0, .int p1]) (vp_Si (fun r' => r' = r)) 0 0 (fun _ => False) := tg_metI (by decide) (Nat.le_of_ble_eq_true rfl) (fun X hl0 C hE => vX1_tidesOf l D c0 c1 c2 t0 t1 t2 c_at c_past c_known t_pips t_many t_berths t_goal p1 X hl0 C r hs hE)
def fX1_isBlind (c_at : Nat → Int32) (p1 : Int32) : Option (Int32) := tg_ck (4 + p1) 9 <| if (c_at (Int32.toNatClampNeg (4 + p1))) = 0 then (some 0) else (some 1)
set_option maxHeartbeats 2000000 in
set_option maxRecDepth 20000 in
theorem vX1_isBlind (l : Launch) (D : tg_D) (c0 c1 c2 t0 t1 t2 : Nat) (c_at : Nat → Int32) (c_past : Nat → Int32) (c_known : Int32) (t_pips : Nat → Int32) (t_many : Nat → Int32) (t_berths : Int32) (t_goal : Int32) (p1 : Int32) (X : tg_X) (hl0 : tg_l X = l) (C : tg_C X D 2 cX1_isBlind RX1 0 0 0 0) (r : Int32) (hs : fX1_isBlind c_at p1 = some r) (hE : tg_Ei X D 0 0 cX1_isBlind .boolean r (tw_C D c0 c1 c2 t0 t1 t2 c_at c_past c_known t_pips t_many t_berths t_goal)) : tg_G X D 2 0 0 (tw_C D c0 c1 c2 t0 t1 t2 c_at c_past c_known t_pips t_many t_berths t_goal) [(0, .ref c0), (1, .int p1)] 0 [] := by
  unfold fX1_isBlind at hs
  refine tg_aload_n C dX1_isBlind_0 rfl 0 rfl ?_
  refine tg_get (v := .ref c1) C cfX1 0 rfl 1 (by decide) wm_196 rfl dX1_isBlind_1 ?_
  refine tg_iconst (v := 4) C dX1_isBlind_4 (by decide) ?_
  refine tg_iload_n C dX1_isBlind_5 rfl 1 rfl ?_
  refine tg_iadd C dX1_isBlind_6 ?_
  obtain ⟨hh1, hs⟩ := tg_ck_e hs
  refine tg_iald C 1 0 rfl rfl hh1 dX1_isBlind_7 ?_
  refine tg_if_eq (tgt := 15) C dX1_isBlind_8 (by decide) (fun cc2 => ?_) (fun cc2 => ?_)
  · have hs := tg_t cc2 hs
    refine tg_iconst (v := 0) C dX1_isBlind_15 (by decide) ?_
    obtain rfl := Option.some.inj hs
    exact tg_iret hE rfl dX1_isBlind_16
  · have hs := tg_f cc2 hs
    refine tg_iconst (v := 1) C dX1_isBlind_11 (by decide) ?_
    refine tg_goto (tgt := 16) C dX1_isBlind_12 (by decide) ?_
    obtain rfl := Option.some.inj hs
    exact tg_iret hE rfl dX1_isBlind_16
set_option maxHeartbeats 2000000 in
set_option maxRecDepth 20000 in
theorem kX1_isBlind (l : Launch) (D : tg_D) (c0 c1 c2 t0 t1 t2 : Nat) (c_at : Nat → Int32) (c_past : Nat → Int32) (c_known : Int32) (t_pips : Nat → Int32) (t_many : Nat → Int32) (t_berths : Int32) (t_goal : Int32) (p1 : Int32) (r : Int32) (hs : fX1_isBlind c_at p1 = some r) : Met l yX1_isBlind [Cond.code yX1_isBlind cX1_isBlind 2 (some .boolean)] (tg_rm 0 0) (tg_Pre D (tw_C D c0 c1 c2 t0 t1 t2 c_at c_past c_known t_pips t_many t_berths t_goal) [.ref c0, .int p1]) (vp_Si (fun r' => r' = r)) 0 0 (fun _ => False) := tg_metI (by decide) (Nat.le_of_ble_eq_true rfl) (fun X hl0 C hE => vX1_isBlind l D c0 c1 c2 t0 t1 t2 c_at c_past c_known t_pips t_many t_berths t_goal p1 X hl0 C r hs hE)
def fX1_wind (c_at : Nat → Int32) : Option (Int32) := some (c_at 6)
set_option maxHeartbeats 2000000 in
set_option maxRecDepth 20000 in
theorem vX1_wind (l : Launch) (D : tg_D) (c0 c1 c2 t0 t1 t2 : Nat) (c_at : Nat → Int32) (c_past : Nat → Int32) (c_known : Int32) (t_pips : Nat → Int32) (t_many : Nat → Int32) (t_berths : Int32) (t_goal : Int32) (X : tg_X) (hl0 : tg_l X = l) (C : tg_C X D 1 cX1_wind RX1 0 0 0 0) (r : Int32) (hs : fX1_wind c_at = some r) (hE : tg_Ei X D 0 0 cX1_wind .int r (tw_C D c0 c1 c2 t0 t1 t2 c_at c_past c_known t_pips t_many t_berths t_goal)) : tg_G X D 1 0 0 (tw_C D c0 c1 c2 t0 t1 t2 c_at c_past c_known t_pips t_many t_berths t_goal) [(0, .ref c0)] 0 [] := by
  unfold fX1_wind at hs
  refine tg_aload_n C dX1_wind_0 rfl 0 rfl ?_
  refine tg_get (v := .ref c1) C cfX1 0 rfl 1 (by decide) wm_196 rfl dX1_wind_1 ?_
  refine tg_bipush (v := 6) C dX1_wind_4 (by decide) ?_
  refine tg_iald C 1 0 rfl rfl (tg_vin (by decide)) dX1_wind_6 ?_
  refine tg_topi (y := c_at 6) rfl ?_
  obtain rfl := Option.some.inj hs
  exact tg_iret hE rfl dX1_wind_7
set_option maxHeartbeats 2000000 in
set_option maxRecDepth 20000 in
theorem kX1_wind (l : Launch) (D : tg_D) (c0 c1 c2 t0 t1 t2 : Nat) (c_at : Nat → Int32) (c_past : Nat → Int32) (c_known : Int32) (t_pips : Nat → Int32) (t_many : Nat → Int32) (t_berths : Int32) (t_goal : Int32) (r : Int32) (hs : fX1_wind c_at = some r) : Met l yX1_wind [Cond.code yX1_wind cX1_wind 1 (some .int)] (tg_rm 0 0) (tg_Pre D (tw_C D c0 c1 c2 t0 t1 t2 c_at c_past c_known t_pips t_many t_berths t_goal) [.ref c0]) (vp_Si (fun r' => r' = r)) 0 0 (fun _ => False) := tg_metI (by decide) (Nat.le_of_ble_eq_true rfl) (fun X hl0 C hE => vX1_wind l D c0 c1 c2 t0 t1 t2 c_at c_past c_known t_pips t_many t_berths t_goal X hl0 C r hs hE)
def fX1_shown (c_at : Nat → Int32) : Option (Int32) := some (c_at 8)
set_option maxHeartbeats 2000000 in
set_option maxRecDepth 20000 in
theorem vX1_shown (l : Launch) (D : tg_D) (c0 c1 c2 t0 t1 t2 : Nat) (c_at : Nat → Int32) (c_past : Nat → Int32) (c_known : Int32) (t_pips : Nat → Int32) (t_many : Nat → Int32) (t_berths : Int32) (t_goal : Int32) (X : tg_X) (hl0 : tg_l X = l) (C : tg_C X D 1 cX1_shown RX1 0 0 0 0) (r : Int32) (hs : fX1_shown c_at = some r) (hE : tg_Ei X D 0 0 cX1_shown .int r (tw_C D c0 c1 c2 t0 t1 t2 c_at c_past c_known t_pips t_many t_berths t_goal)) : tg_G X D 1 0 0 (tw_C D c0 c1 c2 t0 t1 t2 c_at c_past c_known t_pips t_many t_berths t_goal) [(0, .ref c0)] 0 [] := by
  unfold fX1_shown at hs
  refine tg_aload_n C dX1_shown_0 rfl 0 rfl ?_
  refine tg_get (v := .ref c1) C cfX1 0 rfl 1 (by decide) wm_196 rfl dX1_shown_1 ?_
  refine tg_bipush (v := 8) C dX1_shown_4 (by decide) ?_
  refine tg_iald C 1 0 rfl rfl (tg_vin (by decide)) dX1_shown_6 ?_
  refine tg_topi (y := c_at 8) rfl ?_
  obtain rfl := Option.some.inj hs
  exact tg_iret hE rfl dX1_shown_7
set_option maxHeartbeats 2000000 in
set_option maxRecDepth 20000 in
theorem kX1_shown (l : Launch) (D : tg_D) (c0 c1 c2 t0 t1 t2 : Nat) (c_at : Nat → Int32) (c_past : Nat → Int32) (c_known : Int32) (t_pips : Nat → Int32) (t_many : Nat → Int32) (t_berths : Int32) (t_goal : Int32) (r : Int32) (hs : fX1_shown c_at = some r) : Met l yX1_shown [Cond.code yX1_shown cX1_shown 1 (some .int)] (tg_rm 0 0) (tg_Pre D (tw_C D c0 c1 c2 t0 t1 t2 c_at c_past c_known t_pips t_many t_berths t_goal) [.ref c0]) (vp_Si (fun r' => r' = r)) 0 0 (fun _ => False) := tg_metI (by decide) (Nat.le_of_ble_eq_true rfl) (fun X hl0 C hE => vX1_shown l D c0 c1 c2 t0 t1 t2 c_at c_past c_known t_pips t_many t_berths t_goal X hl0 C r hs hE)
def fX1_lies (c_at : Nat → Int32) : Option (Int32) := if (c_at 8) = (-9) then (some 0) else (some 1)
set_option maxHeartbeats 2000000 in
set_option maxRecDepth 20000 in
theorem vX1_lies (l : Launch) (D : tg_D) (c0 c1 c2 t0 t1 t2 : Nat) (c_at : Nat → Int32) (c_past : Nat → Int32) (c_known : Int32) (t_pips : Nat → Int32) (t_many : Nat → Int32) (t_berths : Int32) (t_goal : Int32) (X : tg_X) (hl0 : tg_l X = l) (C : tg_C X D 1 cX1_lies RX1 0 0 0 0) (r : Int32) (hs : fX1_lies c_at = some r) (hE : tg_Ei X D 0 0 cX1_lies .boolean r (tw_C D c0 c1 c2 t0 t1 t2 c_at c_past c_known t_pips t_many t_berths t_goal)) : tg_G X D 1 0 0 (tw_C D c0 c1 c2 t0 t1 t2 c_at c_past c_known t_pips t_many t_berths t_goal) [(0, .ref c0)] 0 [] := by
  unfold fX1_lies at hs
  refine tg_aload_n C dX1_lies_0 rfl 0 rfl ?_
  refine tg_get (v := .ref c1) C cfX1 0 rfl 1 (by decide) wm_196 rfl dX1_lies_1 ?_
  refine tg_bipush (v := 8) C dX1_lies_4 (by decide) ?_
  refine tg_iald C 1 0 rfl rfl (tg_vin (by decide)) dX1_lies_6 ?_
  refine tg_topi (y := c_at 8) rfl ?_
  refine tg_bipush (v := (-9)) C dX1_lies_7 (by decide) ?_
  refine tg_icmp_eq (tgt := 16) C dX1_lies_9 (by decide) (fun cc1 => ?_) (fun cc1 => ?_)
  · have hs := tg_t cc1 hs
    refine tg_iconst (v := 0) C dX1_lies_16 (by decide) ?_
    obtain rfl := Option.some.inj hs
    exact tg_iret hE rfl dX1_lies_17
  · have hs := tg_f cc1 hs
    refine tg_iconst (v := 1) C dX1_lies_12 (by decide) ?_
    refine tg_goto (tgt := 17) C dX1_lies_13 (by decide) ?_
    obtain rfl := Option.some.inj hs
    exact tg_iret hE rfl dX1_lies_17
set_option maxHeartbeats 2000000 in
set_option maxRecDepth 20000 in
theorem kX1_lies (l : Launch) (D : tg_D) (c0 c1 c2 t0 t1 t2 : Nat) (c_at : Nat → Int32) (c_past : Nat → Int32) (c_known : Int32) (t_pips : Nat → Int32) (t_many : Nat → Int32) (t_berths : Int32) (t_goal : Int32) (r : Int32) (hs : fX1_lies c_at = some r) : Met l yX1_lies [Cond.code yX1_lies cX1_lies 1 (some .boolean)] (tg_rm 0 0) (tg_Pre D (tw_C D c0 c1 c2 t0 t1 t2 c_at c_past c_known t_pips t_many t_berths t_goal) [.ref c0]) (vp_Si (fun r' => r' = r)) 0 0 (fun _ => False) := tg_metI (by decide) (Nat.le_of_ble_eq_true rfl) (fun X hl0 C hE => vX1_lies l D c0 c1 c2 t0 t1 t2 c_at c_past c_known t_pips t_many t_berths t_goal X hl0 C r hs hE)
def fX1_owned (c_at : Nat → Int32) : Option (Int32) := tg_b1 (fX1_berthsOf c_at 0) fun rr1 => tg_b1 (fX1_berthsOf c_at 1) fun rr3 => some (rr1 ||| rr3)
set_option maxHeartbeats 2000000 in
set_option maxRecDepth 20000 in
theorem vX1_owned (l : Launch) (D : tg_D) (c0 c1 c2 t0 t1 t2 : Nat) (c_at : Nat → Int32) (c_past : Nat → Int32) (c_known : Int32) (t_pips : Nat → Int32) (t_many : Nat → Int32) (t_berths : Int32) (t_goal : Int32) (X : tg_X) (hl0 : tg_l X = l) (C : tg_C X D 1 cX1_owned RX1 1 21 0 0) (r : Int32) (hs : fX1_owned c_at = some r) (hE : tg_Ei X D 0 0 cX1_owned .int r (tw_C D c0 c1 c2 t0 t1 t2 c_at c_past c_known t_pips t_many t_berths t_goal)) : tg_G X D 1 0 0 (tw_C D c0 c1 c2 t0 t1 t2 c_at c_past c_known t_pips t_many t_berths t_goal) [(0, .ref c0)] 0 [] := by
  unfold fX1_owned at hs
  refine tg_aload_n C dX1_owned_0 rfl 0 rfl ?_
  refine tg_iconst (v := 0) C dX1_owned_1 (by decide) ?_
  obtain ⟨rr1, ee2, hs⟩ := tg_b1_e hs
  refine tg_pVs (As := [.int 0]) (rest := []) C hl0 (kX1_berthsOf l D c0 c1 c2 t0 t1 t2 c_at c_past c_known t_pips t_many t_berths t_goal 0 rr1 ee2) wm_368 meX1_berthsOf (by decide) rfl rfl rfl rfl (Nat.le_of_ble_eq_true rfl) dX1_owned_2 ?_
  refine tg_aload_n C dX1_owned_5 rfl 0 rfl ?_
  refine tg_iconst (v := 1) C dX1_owned_6 (by decide) ?_
  obtain ⟨rr3, ee4, hs⟩ := tg_b1_e hs
  refine tg_pVs (As := [.int 1]) (rest := [.int rr1]) C hl0 (kX1_berthsOf l D c0 c1 c2 t0 t1 t2 c_at c_past c_known t_pips t_many t_berths t_goal 1 rr3 ee4) wm_368 meX1_berthsOf (by decide) rfl rfl rfl rfl (Nat.le_of_ble_eq_true rfl) dX1_owned_7 ?_
  refine tg_ior C dX1_owned_10 ?_
  obtain rfl := Option.some.inj hs
  exact tg_iret hE rfl dX1_owned_11
set_option maxHeartbeats 2000000 in
set_option maxRecDepth 20000 in
theorem kX1_owned (l : Launch) (D : tg_D) (c0 c1 c2 t0 t1 t2 : Nat) (c_at : Nat → Int32) (c_past : Nat → Int32) (c_known : Int32) (t_pips : Nat → Int32) (t_many : Nat → Int32) (t_berths : Int32) (t_goal : Int32) (r : Int32) (hs : fX1_owned c_at = some r) : Met l yX1_owned [Cond.code yX1_owned cX1_owned 1 (some .int)] (tg_rm 1 21) (tg_Pre D (tw_C D c0 c1 c2 t0 t1 t2 c_at c_past c_known t_pips t_many t_berths t_goal) [.ref c0]) (vp_Si (fun r' => r' = r)) 0 0 (fun _ => False) := tg_metI (by decide) (Nat.le_of_ble_eq_true rfl) (fun X hl0 C hE => vX1_owned l D c0 c1 c2 t0 t1 t2 c_at c_past c_known t_pips t_many t_berths t_goal X hl0 C r hs hE)
def fX1_free (c_at : Nat → Int32) : Option (Int32) := tg_b1 (fX1_owned c_at) fun rr1 => some (rr1 ^^^ (-1))
set_option maxHeartbeats 2000000 in
set_option maxRecDepth 20000 in
theorem vX1_free (l : Launch) (D : tg_D) (c0 c1 c2 t0 t1 t2 : Nat) (c_at : Nat → Int32) (c_past : Nat → Int32) (c_known : Int32) (t_pips : Nat → Int32) (t_many : Nat → Int32) (t_berths : Int32) (t_goal : Int32) (X : tg_X) (hl0 : tg_l X = l) (C : tg_C X D 1 cX1_free RX1 2 41 0 0) (r : Int32) (hs : fX1_free c_at = some r) (hE : tg_Ei X D 0 0 cX1_free .int r (tw_C D c0 c1 c2 t0 t1 t2 c_at c_past c_known t_pips t_many t_berths t_goal)) : tg_G X D 1 0 0 (tw_C D c0 c1 c2 t0 t1 t2 c_at c_past c_known t_pips t_many t_berths t_goal) [(0, .ref c0)] 0 [] := by
  unfold fX1_free at hs
  refine tg_aload_n C dX1_free_0 rfl 0 rfl ?_
  obtain ⟨rr1, ee2, hs⟩ := tg_b1_e hs
  refine tg_pVs (As := []) (rest := []) C hl0 (kX1_owned l D c0 c1 c2 t0 t1 t2 c_at c_past c_known t_pips t_many t_berths t_goal rr1 ee2) wm_403 meX1_owned (by decide) rfl rfl rfl rfl (Nat.le_of_ble_eq_true rfl) dX1_free_1 ?_
  refine tg_iconst (v := (-1)) C dX1_free_4 (by decide) ?_
  refine tg_ixor C dX1_free_5 ?_
  obtain rfl := Option.some.inj hs
  exact tg_iret hE rfl dX1_free_6
set_option maxHeartbeats 2000000 in
set_option maxRecDepth 20000 in
theorem kX1_free (l : Launch) (D : tg_D) (c0 c1 c2 t0 t1 t2 : Nat) (c_at : Nat → Int32) (c_past : Nat → Int32) (c_known : Int32) (t_pips : Nat → Int32) (t_many : Nat → Int32) (t_berths : Int32) (t_goal : Int32) (r : Int32) (hs : fX1_free c_at = some r) : Met l yX1_free [Cond.code yX1_free cX1_free 1 (some .int)] (tg_rm 2 41) (tg_Pre D (tw_C D c0 c1 c2 t0 t1 t2 c_at c_past c_known t_pips t_many t_berths t_goal) [.ref c0]) (vp_Si (fun r' => r' = r)) 0 0 (fun _ => False) := tg_metI (by decide) (Nat.le_of_ble_eq_true rfl) (fun X hl0 C hE => vX1_free l D c0 c1 c2 t0 t1 t2 c_at c_past c_known t_pips t_many t_berths t_goal X hl0 C r hs hE)
def fX1_owner_L2 (c_at : Nat → Int32) (n1 : Int32) : Nat → Int32 → Option (Int32)
  | 0, _ => none
  | fuel + 1, n2 => if 2 ≤ n2 then (some (-9)) else (tg_b1 (fX1_berthsOf c_at n2) fun rr2 => tg_b1 (fX4_hasBit rr2 n1) fun rr4 => if rr4 = 0 then (tg_nm (n2 + 1) fun vv7 => fX1_owner_L2 c_at n1 fuel vv7) else (some n2))
def fX1_owner (c_at : Nat → Int32) (p1 : Int32) : Option (Int32) := fX1_owner_L2 c_at p1 400 0
set_option maxHeartbeats 2000000 in
set_option maxRecDepth 20000 in
theorem vX1_owner_L2 (l : Launch) (D : tg_D) (c0 c1 c2 t0 t1 t2 : Nat) (c_at : Nat → Int32) (c_past : Nat → Int32) (c_known : Int32) (t_pips : Nat → Int32) (t_many : Nat → Int32) (t_berths : Int32) (t_goal : Int32) (n1 : Int32) (X : tg_X) (hl0 : tg_l X = l) (C : tg_C X D 3 cX1_owner RX1 2 41 0 0) (r : Int32) (hE : tg_Ei X D 0 0 cX1_owner .int r (tw_C D c0 c1 c2 t0 t1 t2 c_at c_past c_known t_pips t_many t_berths t_goal)) : ∀ (fuel : Nat) (n2 : Int32), fX1_owner_L2 c_at n1 fuel n2 = some r → tg_G X D 3 0 0 (tw_C D c0 c1 c2 t0 t1 t2 c_at c_past c_known t_pips t_many t_berths t_goal) [(0, .ref c0), (1, .int n1), (2, .int n2)] 2 [] := by
  intro fuel
  induction fuel with
  | zero =>
    intro n2 hs
    rw [fX1_owner_L2] at hs
    cases hs
  | succ fuel ih =>
    intro n2 hs
    rw [fX1_owner_L2] at hs
    refine tg_iload_n C dX1_owner_2 rfl 2 rfl ?_
    refine tg_iconst (v := 2) C dX1_owner_3 (by decide) ?_
    refine tg_icmp_ge (tgt := 27) C dX1_owner_4 (by decide) (fun cc1 => ?_) (fun cc1 => ?_)
    · have hs := tg_t cc1 hs
      refine tg_bipush (v := (-9)) C dX1_owner_27 (by decide) ?_
      obtain rfl := Option.some.inj hs
      exact tg_iret hE rfl dX1_owner_29
    · have hs := tg_f cc1 hs
      refine tg_aload_n C dX1_owner_7 rfl 0 rfl ?_
      refine tg_iload_n C dX1_owner_8 rfl 2 rfl ?_
      obtain ⟨rr2, ee3, hs⟩ := tg_b1_e hs
      refine tg_pVs (As := [.int n2]) (rest := []) C hl0 (kX1_berthsOf l D c0 c1 c2 t0 t1 t2 c_at c_past c_known t_pips t_many t_berths t_goal n2 rr2 ee3) wm_368 meX1_berthsOf (by decide) rfl rfl rfl rfl (Nat.le_of_ble_eq_true rfl) dX1_owner_9 ?_
      refine tg_iload_n C dX1_owner_12 rfl 1 rfl ?_
      obtain ⟨rr4, ee5, hs⟩ := tg_b1_e hs
      refine tg_pN (As := [.int rr2, .int n1]) (rest := []) C hl0 (kX4_hasBit l D rr2 n1 rr4 ee5) wm_372 meX4_hasBit (by decide) rfl rfl (Nat.le_of_ble_eq_true rfl) dX1_owner_13 ?_
      refine tg_if_eq (tgt := 21) C dX1_owner_16 (by decide) (fun cc6 => ?_) (fun cc6 => ?_)
      · have hs := tg_t cc6 hs
        obtain ⟨vv7, evv7, hs⟩ := tg_nm_e hs
        refine tg_iinc (v := vv7) (lv' := [(2, .int vv7), (0, .ref c0), (1, .int n1)]) C dX1_owner_21 2 rfl (by rw [evv7]; rfl) (by decide) rfl ?_
        refine tg_goto (tgt := 2) C dX1_owner_24 (by decide) ?_
        refine tg_lsub [1, 2, 0] rfl ?_
        exact ih vv7 hs
      · have hs := tg_f cc6 hs
        refine tg_iload_n C dX1_owner_19 rfl 2 rfl ?_
        obtain rfl := Option.some.inj hs
        exact tg_iret hE rfl dX1_owner_20
set_option maxHeartbeats 2000000 in
set_option maxRecDepth 20000 in
theorem vX1_owner (l : Launch) (D : tg_D) (c0 c1 c2 t0 t1 t2 : Nat) (c_at : Nat → Int32) (c_past : Nat → Int32) (c_known : Int32) (t_pips : Nat → Int32) (t_many : Nat → Int32) (t_berths : Int32) (t_goal : Int32) (p1 : Int32) (X : tg_X) (hl0 : tg_l X = l) (C : tg_C X D 3 cX1_owner RX1 2 41 0 0) (r : Int32) (hs : fX1_owner c_at p1 = some r) (hE : tg_Ei X D 0 0 cX1_owner .int r (tw_C D c0 c1 c2 t0 t1 t2 c_at c_past c_known t_pips t_many t_berths t_goal)) : tg_G X D 3 0 0 (tw_C D c0 c1 c2 t0 t1 t2 c_at c_past c_known t_pips t_many t_berths t_goal) [(0, .ref c0), (1, .int p1)] 0 [] := by
  unfold fX1_owner at hs
  refine tg_iconst (v := 0) C dX1_owner_0 (by decide) ?_
  refine tg_istore_n (lv' := [(2, .int 0), (0, .ref c0), (1, .int p1)]) C dX1_owner_1 rfl (by decide) rfl ?_
  refine tg_lsub [1, 2, 0] rfl ?_
  exact vX1_owner_L2 l D c0 c1 c2 t0 t1 t2 c_at c_past c_known t_pips t_many t_berths t_goal p1 X hl0 C r hE 400 0 hs
set_option maxHeartbeats 2000000 in
set_option maxRecDepth 20000 in
theorem kX1_owner (l : Launch) (D : tg_D) (c0 c1 c2 t0 t1 t2 : Nat) (c_at : Nat → Int32) (c_past : Nat → Int32) (c_known : Int32) (t_pips : Nat → Int32) (t_many : Nat → Int32) (t_berths : Int32) (t_goal : Int32) (p1 : Int32) (r : Int32) (hs : fX1_owner c_at p1 = some r) : Met l yX1_owner [Cond.code yX1_owner cX1_owner 3 (some .int)] (tg_rm 2 41) (tg_Pre D (tw_C D c0 c1 c2 t0 t1 t2 c_at c_past c_known t_pips t_many t_berths t_goal) [.ref c0, .int p1]) (vp_Si (fun r' => r' = r)) 0 0 (fun _ => False) := tg_metI (by decide) (Nat.le_of_ble_eq_true rfl) (fun X hl0 C hE => vX1_owner l D c0 c1 c2 t0 t1 t2 c_at c_past c_known t_pips t_many t_berths t_goal p1 X hl0 C r hs hE)
def fX1_winner_L2 (c_at : Nat → Int32) (t_goal : Int32) : Nat → Int32 → Option (Int32)
  | 0, _ => none
  | fuel + 1, n1 => if 2 ≤ n1 then (some (-9)) else (tg_b1 (fX1_berthsOf c_at n1) fun rr2 => tg_b1 (fJ6_bitCount_0f7a4 rr2) fun rr4 => if rr4 < t_goal then (tg_nm (n1 + 1) fun vv7 => fX1_winner_L2 c_at t_goal fuel vv7) else (some n1))
def fX1_winner (c_at : Nat → Int32) (t_goal : Int32) : Option (Int32) := fX1_winner_L2 c_at t_goal 400 0
set_option maxHeartbeats 2000000 in
set_option maxRecDepth 20000 in
theorem vX1_winner_L2 (l : Launch) (D : tg_D) (c0 c1 c2 t0 t1 t2 : Nat) (c_at : Nat → Int32) (c_past : Nat → Int32) (c_known : Int32) (t_pips : Nat → Int32) (t_many : Nat → Int32) (t_berths : Int32) (t_goal : Int32) (X : tg_X) (hl0 : tg_l X = l) (C : tg_C X D 2 cX1_winner RX1 1 21 0 0) (r : Int32) (hE : tg_Ei X D 0 0 cX1_winner .int r (tw_C D c0 c1 c2 t0 t1 t2 c_at c_past c_known t_pips t_many t_berths t_goal)) : ∀ (fuel : Nat) (n1 : Int32), fX1_winner_L2 c_at t_goal fuel n1 = some r → tg_G X D 2 0 0 (tw_C D c0 c1 c2 t0 t1 t2 c_at c_past c_known t_pips t_many t_berths t_goal) [(0, .ref c0), (1, .int n1)] 2 [] := by
  intro fuel
  induction fuel with
  | zero =>
    intro n1 hs
    rw [fX1_winner_L2] at hs
    cases hs
  | succ fuel ih =>
    intro n1 hs
    rw [fX1_winner_L2] at hs
    refine tg_iload_n C dX1_winner_2 rfl 1 rfl ?_
    refine tg_iconst (v := 2) C dX1_winner_3 (by decide) ?_
    refine tg_icmp_ge (tgt := 33) C dX1_winner_4 (by decide) (fun cc1 => ?_) (fun cc1 => ?_)
    · have hs := tg_t cc1 hs
      refine tg_bipush (v := (-9)) C dX1_winner_33 (by decide) ?_
      obtain rfl := Option.some.inj hs
      exact tg_iret hE rfl dX1_winner_35
    · have hs := tg_f cc1 hs
      refine tg_aload_n C dX1_winner_7 rfl 0 rfl ?_
      refine tg_iload_n C dX1_winner_8 rfl 1 rfl ?_
      obtain ⟨rr2, ee3, hs⟩ := tg_b1_e hs
      refine tg_pVs (As := [.int n1]) (rest := []) C hl0 (kX1_berthsOf l D c0 c1 c2 t0 t1 t2 c_at c_past c_known t_pips t_many t_berths t_goal n1 rr2 ee3) wm_368 meX1_berthsOf (by decide) rfl rfl rfl rfl (Nat.le_of_ble_eq_true rfl) dX1_winner_9 ?_
      obtain ⟨rr4, ee5, hs⟩ := tg_b1_e hs
      refine tg_pS (As := [.int rr2]) (rest := []) C hl0 (kJ6_bitCount_0f7a4 l D rr2 rr4 ee5) wm_424 meJ6_bitCount_0f7a4 (by decide) rfl rfl (Nat.le_of_ble_eq_true rfl) dX1_winner_12 ?_
      refine tg_aload_n C dX1_winner_15 rfl 0 rfl ?_
      refine tg_get (v := .ref t0) C cfX1 0 rfl 0 (by decide) wm_195 rfl dX1_winner_16 ?_
      refine tg_get (v := .int t_goal) C cfX3 3 rfl 3 (by decide) wm_100 rfl dX1_winner_19 ?_
      refine tg_icmp_lt (tgt := 27) C dX1_winner_22 (by decide) (fun cc6 => ?_) (fun cc6 => ?_)
      · have hs := tg_t cc6 hs
        obtain ⟨vv7, evv7, hs⟩ := tg_nm_e hs
        refine tg_iinc (v := vv7) (lv' := [(1, .int vv7), (0, .ref c0)]) C dX1_winner_27 1 rfl (by rw [evv7]; rfl) (by decide) rfl ?_
        refine tg_goto (tgt := 2) C dX1_winner_30 (by decide) ?_
        refine tg_lsub [1, 0] rfl ?_
        exact ih vv7 hs
      · have hs := tg_f cc6 hs
        refine tg_iload_n C dX1_winner_25 rfl 1 rfl ?_
        obtain rfl := Option.some.inj hs
        exact tg_iret hE rfl dX1_winner_26
set_option maxHeartbeats 2000000 in
set_option maxRecDepth 20000 in
theorem vX1_winner (l : Launch) (D : tg_D) (c0 c1 c2 t0 t1 t2 : Nat) (c_at : Nat → Int32) (c_past : Nat → Int32) (c_known : Int32) (t_pips : Nat → Int32) (t_many : Nat → Int32) (t_berths : Int32) (t_goal : Int32) (X : tg_X) (hl0 : tg_l X = l) (C : tg_C X D 2 cX1_winner RX1 1 21 0 0) (r : Int32) (hs : fX1_winner c_at t_goal = some r) (hE : tg_Ei X D 0 0 cX1_winner .int r (tw_C D c0 c1 c2 t0 t1 t2 c_at c_past c_known t_pips t_many t_berths t_goal)) : tg_G X D 2 0 0 (tw_C D c0 c1 c2 t0 t1 t2 c_at c_past c_known t_pips t_many t_berths t_goal) [(0, .ref c0)] 0 [] := by
  unfold fX1_winner at hs
  refine tg_iconst (v := 0) C dX1_winner_0 (by decide) ?_
  refine tg_istore_n (lv' := [(1, .int 0), (0, .ref c0)]) C dX1_winner_1 rfl (by decide) rfl ?_
  refine tg_lsub [1, 0] rfl ?_
  exact vX1_winner_L2 l D c0 c1 c2 t0 t1 t2 c_at c_past c_known t_pips t_many t_berths t_goal X hl0 C r hE 400 0 hs
set_option maxHeartbeats 2000000 in
set_option maxRecDepth 20000 in
theorem kX1_winner (l : Launch) (D : tg_D) (c0 c1 c2 t0 t1 t2 : Nat) (c_at : Nat → Int32) (c_past : Nat → Int32) (c_known : Int32) (t_pips : Nat → Int32) (t_many : Nat → Int32) (t_berths : Int32) (t_goal : Int32) (r : Int32) (hs : fX1_winner c_at t_goal = some r) : Met l yX1_winner [Cond.code yX1_winner cX1_winner 2 (some .int)] (tg_rm 1 21) (tg_Pre D (tw_C D c0 c1 c2 t0 t1 t2 c_at c_past c_known t_pips t_many t_berths t_goal) [.ref c0]) (vp_Si (fun r' => r' = r)) 0 0 (fun _ => False) := tg_metI (by decide) (Nat.le_of_ble_eq_true rfl) (fun X hl0 C hE => vX1_winner l D c0 c1 c2 t0 t1 t2 c_at c_past c_known t_pips t_many t_berths t_goal X hl0 C r hs hE)
def fX1_whoMoves (c_at : Nat → Int32) (t_goal : Int32) : Option (Int32) := tg_b1 (fX1_winner c_at t_goal) fun rr1 => if ¬ rr1 = (-9) then (some (-9)) else (some (c_at 7))
set_option maxHeartbeats 2000000 in
set_option maxRecDepth 20000 in
theorem vX1_whoMoves (l : Launch) (D : tg_D) (c0 c1 c2 t0 t1 t2 : Nat) (c_at : Nat → Int32) (c_past : Nat → Int32) (c_known : Int32) (t_pips : Nat → Int32) (t_many : Nat → Int32) (t_berths : Int32) (t_goal : Int32) (X : tg_X) (hl0 : tg_l X = l) (C : tg_C X D 1 cX1_whoMoves RX1 2 42 0 0) (r : Int32) (hs : fX1_whoMoves c_at t_goal = some r) (hE : tg_Ei X D 0 0 cX1_whoMoves .int r (tw_C D c0 c1 c2 t0 t1 t2 c_at c_past c_known t_pips t_many t_berths t_goal)) : tg_G X D 1 0 0 (tw_C D c0 c1 c2 t0 t1 t2 c_at c_past c_known t_pips t_many t_berths t_goal) [(0, .ref c0)] 0 [] := by
  unfold fX1_whoMoves at hs
  refine tg_aload_n C dX1_whoMoves_0 rfl 0 rfl ?_
  obtain ⟨rr1, ee2, hs⟩ := tg_b1_e hs
  refine tg_pVs (As := []) (rest := []) C hl0 (kX1_winner l D c0 c1 c2 t0 t1 t2 c_at c_past c_known t_pips t_many t_berths t_goal rr1 ee2) wm_479 meX1_winner (by decide) rfl rfl rfl rfl (Nat.le_of_ble_eq_true rfl) dX1_whoMoves_1 ?_
  refine tg_bipush (v := (-9)) C dX1_whoMoves_4 (by decide) ?_
  refine tg_icmp_ne (tgt := 19) C dX1_whoMoves_6 (by decide) (fun cc3 => ?_) (fun cc3 => ?_)
  · have hs := tg_t cc3 hs
    refine tg_bipush (v := (-9)) C dX1_whoMoves_19 (by decide) ?_
    obtain rfl := Option.some.inj hs
    exact tg_iret hE rfl dX1_whoMoves_21
  · have hs := tg_nf cc3 hs
    refine tg_aload_n C dX1_whoMoves_9 rfl 0 rfl ?_
    refine tg_get (v := .ref c1) C cfX1 0 rfl 1 (by decide) wm_196 rfl dX1_whoMoves_10 ?_
    refine tg_bipush (v := 7) C dX1_whoMoves_13 (by decide) ?_
    refine tg_iald C 1 0 rfl rfl (tg_vin (by decide)) dX1_whoMoves_15 ?_
    refine tg_topi (y := c_at 7) rfl ?_
    refine tg_goto (tgt := 21) C dX1_whoMoves_16 (by decide) ?_
    obtain rfl := Option.some.inj hs
    exact tg_iret hE rfl dX1_whoMoves_21
set_option maxHeartbeats 2000000 in
set_option maxRecDepth 20000 in
theorem kX1_whoMoves (l : Launch) (D : tg_D) (c0 c1 c2 t0 t1 t2 : Nat) (c_at : Nat → Int32) (c_past : Nat → Int32) (c_known : Int32) (t_pips : Nat → Int32) (t_many : Nat → Int32) (t_berths : Int32) (t_goal : Int32) (r : Int32) (hs : fX1_whoMoves c_at t_goal = some r) : Met l yX1_whoMoves [Cond.code yX1_whoMoves cX1_whoMoves 1 (some .int)] (tg_rm 2 42) (tg_Pre D (tw_C D c0 c1 c2 t0 t1 t2 c_at c_past c_known t_pips t_many t_berths t_goal) [.ref c0]) (vp_Si (fun r' => r' = r)) 0 0 (fun _ => False) := tg_metI (by decide) (Nat.le_of_ble_eq_true rfl) (fun X hl0 C hE => vX1_whoMoves l D c0 c1 c2 t0 t1 t2 c_at c_past c_known t_pips t_many t_berths t_goal X hl0 C r hs hE)
def fX1_open (c_at : Nat → Int32) (t_berths : Int32) : Option (Int32) := tg_b1 (fX1_lies c_at) fun rr1 => if ¬ rr1 = 0 then (tg_b1 (fX1_shown c_at) fun rr4 => tg_b1 (fX1_wind c_at) fun rr6 => tg_b1 (fX3_opens t_berths (rr4 / 100) ((rr4 / 10) - (rr4 / 10) / 10 * 10) (rr4 - rr4 / 10 * 10) rr6) fun rr8 => tg_b1 (fX1_free c_at) fun rr10 => some (rr8 &&& rr10)) else (some 0)
set_option maxHeartbeats 2000000 in
set_option maxRecDepth 20000 in
theorem vX1_open (l : Launch) (D : tg_D) (c0 c1 c2 t0 t1 t2 : Nat) (c_at : Nat → Int32) (c_past : Nat → Int32) (c_known : Int32) (t_pips : Nat → Int32) (t_many : Nat → Int32) (t_berths : Int32) (t_goal : Int32) (X : tg_X) (hl0 : tg_l X = l) (C : tg_C X D 2 cX1_open RX1 3 66 0 0) (r : Int32) (hs : fX1_open c_at t_berths = some r) (hE : tg_Ei X D 0 0 cX1_open .int r (tw_C D c0 c1 c2 t0 t1 t2 c_at c_past c_known t_pips t_many t_berths t_goal)) : tg_G X D 2 0 0 (tw_C D c0 c1 c2 t0 t1 t2 c_at c_past c_known t_pips t_many t_berths t_goal) [(0, .ref c0)] 0 [] := by
  unfold fX1_open at hs
  refine tg_aload_n C dX1_open_0 rfl 0 rfl ?_
  obtain ⟨rr1, ee2, hs⟩ := tg_b1_e hs
  refine tg_pVs (As := []) (rest := []) C hl0 (kX1_lies l D c0 c1 c2 t0 t1 t2 c_at c_past c_known t_pips t_many t_berths t_goal rr1 ee2) wm_444 meX1_lies (by decide) rfl rfl rfl rfl (Nat.le_of_ble_eq_true rfl) dX1_open_1 ?_
  refine tg_if_ne (tgt := 9) C dX1_open_4 (by decide) (fun cc3 => ?_) (fun cc3 => ?_)
  · have hs := tg_t cc3 hs
    refine tg_aload_n C dX1_open_9 rfl 0 rfl ?_
    obtain ⟨rr4, ee5, hs⟩ := tg_b1_e hs
    refine tg_pVs (As := []) (rest := []) C hl0 (kX1_shown l D c0 c1 c2 t0 t1 t2 c_at c_past c_known t_pips t_many t_berths t_goal rr4 ee5) wm_445 meX1_shown (by decide) rfl rfl rfl rfl (Nat.le_of_ble_eq_true rfl) dX1_open_10 ?_
    refine tg_istore_n (lv' := [(1, .int rr4), (0, .ref c0)]) C dX1_open_13 rfl (by decide) rfl ?_
    refine tg_aload_n C dX1_open_14 rfl 1 rfl ?_
    refine tg_get (v := .ref t0) C cfX1 0 rfl 0 (by decide) wm_195 rfl dX1_open_15 ?_
    refine tg_iload_n C dX1_open_18 rfl 0 rfl ?_
    refine tg_bipush (v := 100) C dX1_open_19 (by decide) ?_
    refine tg_idiv C (by decide) dX1_open_21 ?_
    refine tg_iload_n C dX1_open_22 rfl 0 rfl ?_
    refine tg_bipush (v := 10) C dX1_open_23 (by decide) ?_
    refine tg_idiv C (by decide) dX1_open_25 ?_
    refine tg_bipush (v := 10) C dX1_open_26 (by decide) ?_
    refine tg_irem C (by decide) dX1_open_28 ?_
    refine tg_iload_n C dX1_open_29 rfl 0 rfl ?_
    refine tg_bipush (v := 10) C dX1_open_30 (by decide) ?_
    refine tg_irem C (by decide) dX1_open_32 ?_
    refine tg_aload_n C dX1_open_33 rfl 1 rfl ?_
    obtain ⟨rr6, ee7, hs⟩ := tg_b1_e hs
    refine tg_pVs (As := []) (rest := [.int (rr4 - rr4 / 10 * 10), .int ((rr4 / 10) - (rr4 / 10) / 10 * 10), .int (rr4 / 100), .ref t0]) C hl0 (kX1_wind l D c0 c1 c2 t0 t1 t2 c_at c_past c_known t_pips t_many t_berths t_goal rr6 ee7) wm_449 meX1_wind (by decide) rfl rfl rfl rfl (Nat.le_of_ble_eq_true rfl) dX1_open_34 ?_
    obtain ⟨rr8, ee9, hs⟩ := tg_b1_e hs
    refine tg_pV (As := [.int (rr4 / 100), .int ((rr4 / 10) - (rr4 / 10) / 10 * 10), .int (rr4 - rr4 / 10 * 10), .int rr6]) (rest := []) C hl0 (kX3_opens l D t0 t1 t2 t_pips t_many t_berths t_goal (rr4 / 100) ((rr4 / 10) - (rr4 / 10) / 10 * 10) (rr4 - rr4 / 10 * 10) rr6 rr8 ee9) wm_453 meX3_opens (by decide) [3, 4, 5] rfl (by decide) rfl rfl rfl rfl (Nat.le_of_ble_eq_true rfl) dX1_open_37 ?_
    refine tg_aload_n C dX1_open_40 rfl 1 rfl ?_
    obtain ⟨rr10, ee11, hs⟩ := tg_b1_e hs
    refine tg_pVs (As := []) (rest := [.int rr8]) C hl0 (kX1_free l D c0 c1 c2 t0 t1 t2 c_at c_past c_known t_pips t_many t_berths t_goal rr10 ee11) wm_454 meX1_free (by decide) rfl rfl rfl rfl (Nat.le_of_ble_eq_true rfl) dX1_open_41 ?_
    refine tg_iand C dX1_open_44 ?_
    obtain rfl := Option.some.inj hs
    exact tg_iret hE rfl dX1_open_45
  · have hs := tg_nf cc3 hs
    refine tg_iconst (v := 0) C dX1_open_7 (by decide) ?_
    obtain rfl := Option.some.inj hs
    exact tg_iret hE rfl dX1_open_8
set_option maxHeartbeats 2000000 in
set_option maxRecDepth 20000 in
theorem kX1_open (l : Launch) (D : tg_D) (c0 c1 c2 t0 t1 t2 : Nat) (c_at : Nat → Int32) (c_past : Nat → Int32) (c_known : Int32) (t_pips : Nat → Int32) (t_many : Nat → Int32) (t_berths : Int32) (t_goal : Int32) (r : Int32) (hs : fX1_open c_at t_berths = some r) : Met l yX1_open [Cond.code yX1_open cX1_open 2 (some .int)] (tg_rm 3 66) (tg_Pre D (tw_C D c0 c1 c2 t0 t1 t2 c_at c_past c_known t_pips t_many t_berths t_goal) [.ref c0]) (vp_Si (fun r' => r' = r)) 0 0 (fun _ => False) := tg_metI (by decide) (Nat.le_of_ble_eq_true rfl) (fun X hl0 C hE => vX1_open l D c0 c1 c2 t0 t1 t2 c_at c_past c_known t_pips t_many t_berths t_goal X hl0 C r hs hE)
