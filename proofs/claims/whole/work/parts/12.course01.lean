def fX1_tidesFor (c_at : Nat → Int32) (p1 : Int32) : Option (Int32) := tg_b1 (fX1_berthsOf c_at (1 - (c_at 7))) fun rr1 => tg_b1 (fX4_bit p1) fun rr3 => tg_b1 (fJ6_bitCount_0f7a4 (rr1 &&& (rr3 - 1))) fun rr5 => some rr5
set_option maxHeartbeats 2000000 in
set_option maxRecDepth 20000 in
theorem vX1_tidesFor (l : Launch) (D : tg_D) (c0 c1 c2 t0 t1 t2 : Nat) (c_at : Nat → Int32) (c_past : Nat → Int32) (c_known : Int32) (t_pips : Nat → Int32) (t_many : Nat → Int32) (t_berths : Int32) (t_goal : Int32) (p1 : Int32) (X : tg_X) (hl0 : tg_l X = l) (C : tg_C X D 2 cX1_tidesFor RX1 1 21 0 0) (r : Int32) (hs : fX1_tidesFor c_at p1 = some r) (hE : tg_Ei X D 0 0 cX1_tidesFor .int r (tw_C D c0 c1 c2 t0 t1 t2 c_at c_past c_known t_pips t_many t_berths t_goal)) : tg_G X D 2 0 0 (tw_C D c0 c1 c2 t0 t1 t2 c_at c_past c_known t_pips t_many t_berths t_goal) [(0, .ref c0), (1, .int p1)] 0 [] := by
  unfold fX1_tidesFor at hs
  refine tg_aload_n C dX1_tidesFor_0 rfl 0 rfl ?_
  refine tg_iconst (v := 1) C dX1_tidesFor_1 (by decide) ?_
  refine tg_aload_n C dX1_tidesFor_2 rfl 0 rfl ?_
  refine tg_get (v := .ref c1) C cfX1 0 rfl 1 (by decide) wm_196 rfl dX1_tidesFor_3 ?_
  refine tg_bipush (v := 7) C dX1_tidesFor_6 (by decide) ?_
  refine tg_iald C 1 0 rfl rfl (tg_vin (by decide)) dX1_tidesFor_8 ?_
  refine tg_topi (y := c_at 7) rfl ?_
  refine tg_isub C dX1_tidesFor_9 ?_
  obtain ⟨rr1, ee2, hs⟩ := tg_b1_e hs
  refine tg_pVs (As := [.int (1 - (c_at 7))]) (rest := []) C hl0 (kX1_berthsOf l D c0 c1 c2 t0 t1 t2 c_at c_past c_known t_pips t_many t_berths t_goal (1 - (c_at 7)) rr1 ee2) wm_368 meX1_berthsOf (by decide) rfl rfl rfl rfl (Nat.le_of_ble_eq_true rfl) dX1_tidesFor_10 ?_
  refine tg_iload_n C dX1_tidesFor_13 rfl 1 rfl ?_
  obtain ⟨rr3, ee4, hs⟩ := tg_b1_e hs
  refine tg_pN (As := [.int p1]) (rest := [.int rr1]) C hl0 (kX4_bit l D p1 rr3 ee4) wm_468 meX4_bit (by decide) rfl rfl (Nat.le_of_ble_eq_true rfl) dX1_tidesFor_14 ?_
  refine tg_iconst (v := 1) C dX1_tidesFor_17 (by decide) ?_
  refine tg_isub C dX1_tidesFor_18 ?_
  refine tg_iand C dX1_tidesFor_19 ?_
  obtain ⟨rr5, ee6, hs⟩ := tg_b1_e hs
  refine tg_pS (As := [.int (rr1 &&& (rr3 - 1))]) (rest := []) C hl0 (kJ6_bitCount_0f7a4 l D (rr1 &&& (rr3 - 1)) rr5 ee6) wm_424 meJ6_bitCount_0f7a4 (by decide) rfl rfl (Nat.le_of_ble_eq_true rfl) dX1_tidesFor_20 ?_
  obtain rfl := Option.some.inj hs
  exact tg_iret hE rfl dX1_tidesFor_23
set_option maxHeartbeats 2000000 in
set_option maxRecDepth 20000 in
theorem kX1_tidesFor (l : Launch) (D : tg_D) (c0 c1 c2 t0 t1 t2 : Nat) (c_at : Nat → Int32) (c_past : Nat → Int32) (c_known : Int32) (t_pips : Nat → Int32) (t_many : Nat → Int32) (t_berths : Int32) (t_goal : Int32) (p1 : Int32) (r : Int32) (hs : fX1_tidesFor c_at p1 = some r) : Met l yX1_tidesFor [Cond.code yX1_tidesFor cX1_tidesFor 2 (some .int)] (tg_rm 1 21) (tg_Pre D (tw_C D c0 c1 c2 t0 t1 t2 c_at c_past c_known t_pips t_many t_berths t_goal) [.ref c0, .int p1]) (vp_Si (fun r' => r' = r)) 0 0 (fun _ => False) := tg_metI (by decide) (Nat.le_of_ble_eq_true rfl) (fun X hl0 C hE => vX1_tidesFor l D c0 c1 c2 t0 t1 t2 c_at c_past c_known t_pips t_many t_berths t_goal p1 X hl0 C r hs hE)
def fX1_cast (c_at : Nat → Int32) (c_past : Nat → Int32) (c_known : Int32) (p1 : Int32) (p2 : Int32) (p3 : Int32) : Option ((Nat → Int32) × (Nat → Int32) × Int32) := tg_b2 (fX1_remember c_at c_past c_known) fun gg1 vv2 => tg_b1 (fX0_shownAs p1 p2 p3) fun rr4 => tg_nm (upd c_at 8 rr4) fun gg6 => tg_b1 (fX0_alikePairs p1 p2 p3) fun rr7 => if ¬ rr7 = 1 then (if ¬ rr7 = 3 then (some (gg6, gg1, vv2)) else (tg_ck (4 + (gg6 7)) 9 <| tg_nm (upd gg6 (Int32.toNatClampNeg (4 + (gg6 7))) 1) fun gg11 => some (gg11, gg1, vv2))) else (tg_nm (1 - (gg6 6)) fun vv13 => tg_nm (upd gg6 6 vv13) fun gg14 => some (gg14, gg1, vv2))
set_option maxHeartbeats 2000000 in
set_option maxRecDepth 20000 in
theorem vX1_cast (l : Launch) (D : tg_D) (c0 c1 c2 t0 t1 t2 : Nat) (c_at : Nat → Int32) (c_past : Nat → Int32) (c_known : Int32) (t_pips : Nat → Int32) (t_many : Nat → Int32) (t_berths : Int32) (t_goal : Int32) (p1 : Int32) (p2 : Int32) (p3 : Int32) (X : tg_X) (hl0 : tg_l X = l) (C : tg_C X D 5 cX1_cast RX1 2 41 0 0) (V : tg_V X) (q_c_at : Nat → Int32) (q_c_past : Nat → Int32) (q_c_known : Int32) (hs : fX1_cast c_at c_past c_known p1 p2 p3 = some (q_c_at, q_c_past, q_c_known)) (hE : tg_Ev X D 0 0 cX1_cast (tw_C D c0 c1 c2 t0 t1 t2 q_c_at q_c_past q_c_known t_pips t_many t_berths t_goal)) : tg_G X D 5 0 0 (tw_C D c0 c1 c2 t0 t1 t2 c_at c_past c_known t_pips t_many t_berths t_goal) [(0, .ref c0), (1, .int p1), (2, .int p2), (3, .int p3)] 0 [] := by
  unfold fX1_cast at hs
  refine tg_aload_n C dX1_cast_0 rfl 0 rfl ?_
  obtain ⟨gg1, vv2, ee3, hs⟩ := tg_b2_e hs
  refine tg_eVs (ws' := (tw_C D c0 c1 c2 t0 t1 t2 c_at gg1 vv2 t_pips t_many t_berths t_goal)) (As := []) (rest := []) C V hl0 (kX1_remember l D c0 c1 c2 t0 t1 t2 c_at c_past c_known t_pips t_many t_berths t_goal gg1 vv2 ee3) wm_429 meX1_remember (by decide) rfl rfl rfl rfl (Nat.le_of_ble_eq_true rfl) rfl dX1_cast_1 ?_
  refine tg_aload_n C dX1_cast_4 rfl 0 rfl ?_
  refine tg_get (v := .ref c1) C cfX1 0 rfl 1 (by decide) wm_196 rfl dX1_cast_5 ?_
  refine tg_bipush (v := 8) C dX1_cast_8 (by decide) ?_
  refine tg_iload_n C dX1_cast_10 rfl 1 rfl ?_
  refine tg_iload_n C dX1_cast_11 rfl 2 rfl ?_
  refine tg_iload_n C dX1_cast_12 rfl 3 rfl ?_
  obtain ⟨rr4, ee5, hs⟩ := tg_b1_e hs
  refine tg_pS (As := [.int p1, .int p2, .int p3]) (rest := [.int 8, .ref c1]) C hl0 (kX0_shownAs l D p1 p2 p3 rr4 ee5) wm_438 meX0_shownAs (by decide) rfl rfl (Nat.le_of_ble_eq_true rfl) dX1_cast_13 ?_
  obtain ⟨gg6, egg6, hs⟩ := tg_nm_e hs
  refine tg_iast (ws' := (tw_C D c0 c1 c2 t0 t1 t2 gg6 gg1 vv2 t_pips t_many t_berths t_goal)) C V 1 0 rfl rfl (tg_vin (by decide)) (by rw [egg6]; rfl) rfl dX1_cast_16 ?_
  refine tg_iload_n C dX1_cast_17 rfl 1 rfl ?_
  refine tg_iload_n C dX1_cast_18 rfl 2 rfl ?_
  refine tg_iload_n C dX1_cast_19 rfl 3 rfl ?_
  obtain ⟨rr7, ee8, hs⟩ := tg_b1_e hs
  refine tg_pS (As := [.int p1, .int p2, .int p3]) (rest := []) C hl0 (kX0_alikePairs l D p1 p2 p3 rr7 ee8) wm_439 meX0_alikePairs (by decide) rfl rfl (Nat.le_of_ble_eq_true rfl) dX1_cast_20 ?_
  refine tg_istore (lv' := [(4, .int rr7), (0, .ref c0), (1, .int p1), (2, .int p2), (3, .int p3)]) C dX1_cast_23 (by decide) rfl ?_
  refine tg_iload C dX1_cast_25 0 rfl ?_
  refine tg_iconst (v := 1) C dX1_cast_27 (by decide) ?_
  refine tg_icmp_ne (tgt := 50) C dX1_cast_28 (by decide) (fun cc9 => ?_) (fun cc9 => ?_)
  · have hs := tg_t cc9 hs
    refine tg_iload C dX1_cast_50 0 rfl ?_
    refine tg_iconst (v := 3) C dX1_cast_52 (by decide) ?_
    refine tg_icmp_ne (tgt := 71) C dX1_cast_53 (by decide) (fun cc10 => ?_) (fun cc10 => ?_)
    · have hs := tg_t cc10 hs
      obtain ⟨rfl, rfl, rfl⟩ := tg_i3 hs
      exact tg_vret hE dX1_cast_71
    · have hs := tg_nf cc10 hs
      refine tg_aload_n C dX1_cast_56 rfl 1 rfl ?_
      refine tg_get (v := .ref c1) C cfX1 0 rfl 1 (by decide) wm_196 rfl dX1_cast_57 ?_
      refine tg_iconst (v := 4) C dX1_cast_60 (by decide) ?_
      refine tg_aload_n C dX1_cast_61 rfl 1 rfl ?_
      refine tg_get (v := .ref c1) C cfX1 0 rfl 1 (by decide) wm_196 rfl dX1_cast_62 ?_
      refine tg_bipush (v := 7) C dX1_cast_65 (by decide) ?_
      refine tg_iald C 1 0 rfl rfl (tg_vin (by decide)) dX1_cast_67 ?_
      refine tg_topi (y := gg6 7) rfl ?_
      refine tg_iadd C dX1_cast_68 ?_
      refine tg_iconst (v := 1) C dX1_cast_69 (by decide) ?_
      obtain ⟨hh12, hs⟩ := tg_ck_e hs
      obtain ⟨gg11, egg11, hs⟩ := tg_nm_e hs
      refine tg_iast (ws' := (tw_C D c0 c1 c2 t0 t1 t2 gg11 gg1 vv2 t_pips t_many t_berths t_goal)) C V 1 0 rfl rfl hh12 egg11 rfl dX1_cast_70 ?_
      obtain ⟨rfl, rfl, rfl⟩ := tg_i3 hs
      exact tg_vret hE dX1_cast_71
  · have hs := tg_nf cc9 hs
    refine tg_aload_n C dX1_cast_31 rfl 1 rfl ?_
    refine tg_get (v := .ref c1) C cfX1 0 rfl 1 (by decide) wm_196 rfl dX1_cast_32 ?_
    refine tg_bipush (v := 6) C dX1_cast_35 (by decide) ?_
    refine tg_iconst (v := 1) C dX1_cast_37 (by decide) ?_
    refine tg_aload_n C dX1_cast_38 rfl 1 rfl ?_
    refine tg_get (v := .ref c1) C cfX1 0 rfl 1 (by decide) wm_196 rfl dX1_cast_39 ?_
    refine tg_bipush (v := 6) C dX1_cast_42 (by decide) ?_
    refine tg_iald C 1 0 rfl rfl (tg_vin (by decide)) dX1_cast_44 ?_
    refine tg_topi (y := gg6 6) rfl ?_
    refine tg_isub C dX1_cast_45 ?_
    obtain ⟨vv13, evv13, hs⟩ := tg_nm_e hs
    refine tg_topi evv13 ?_
    obtain ⟨gg14, egg14, hs⟩ := tg_nm_e hs
    refine tg_iast (ws' := (tw_C D c0 c1 c2 t0 t1 t2 gg14 gg1 vv2 t_pips t_many t_berths t_goal)) C V 1 0 rfl rfl (tg_vin (by decide)) (by rw [egg14]; rfl) rfl dX1_cast_46 ?_
    refine tg_goto (tgt := 71) C dX1_cast_47 (by decide) ?_
    obtain ⟨rfl, rfl, rfl⟩ := tg_i3 hs
    exact tg_vret hE dX1_cast_71
set_option maxHeartbeats 2000000 in
set_option maxRecDepth 20000 in
theorem kX1_cast (l : Launch) (D : tg_D) (c0 c1 c2 t0 t1 t2 : Nat) (c_at : Nat → Int32) (c_past : Nat → Int32) (c_known : Int32) (t_pips : Nat → Int32) (t_many : Nat → Int32) (t_berths : Int32) (t_goal : Int32) (p1 : Int32) (p2 : Int32) (p3 : Int32) (q_c_at : Nat → Int32) (q_c_past : Nat → Int32) (q_c_known : Int32) (hs : fX1_cast c_at c_past c_known p1 p2 p3 = some (q_c_at, q_c_past, q_c_known)) : Met l yX1_cast [Cond.code yX1_cast cX1_cast 5 none] (tg_rm 2 41) (tg_Pre D (tw_C D c0 c1 c2 t0 t1 t2 c_at c_past c_known t_pips t_many t_berths t_goal) [.ref c0, .int p1, .int p2, .int p3]) (tg_Qe none D (tw_C D c0 c1 c2 t0 t1 t2 q_c_at q_c_past q_c_known t_pips t_many t_berths t_goal) (tg_Ad (tw_C D c0 c1 c2 t0 t1 t2 c_at c_past c_known t_pips t_many t_berths t_goal))) 0 0 (tg_Ad (tw_C D c0 c1 c2 t0 t1 t2 c_at c_past c_known t_pips t_many t_berths t_goal)) := tg_metEv (by decide) (Nat.le_of_ble_eq_true rfl) (fun X hl0 C V hE => vX1_cast l D c0 c1 c2 t0 t1 t2 c_at c_past c_known t_pips t_many t_berths t_goal p1 p2 p3 X hl0 C V q_c_at q_c_past q_c_known hs hE)
def fX1_giveTides (c_at : Nat → Int32) (p1 : Int32) (p2 : Int32) : Option ((Nat → Int32)) := tg_b1 (fX1_tidesOf c_at p1) fun rr1 => tg_nm (if 999 < (rr1 + p2) then 999 else rr1 + p2) fun vv3 => tg_ck (2 + p1) 9 <| tg_nm (upd c_at (Int32.toNatClampNeg (2 + p1)) vv3) fun gg4 => some gg4
set_option maxHeartbeats 2000000 in
set_option maxRecDepth 20000 in
theorem vX1_giveTides (l : Launch) (D : tg_D) (c0 c1 c2 t0 t1 t2 : Nat) (c_at : Nat → Int32) (c_past : Nat → Int32) (c_known : Int32) (t_pips : Nat → Int32) (t_many : Nat → Int32) (t_berths : Int32) (t_goal : Int32) (p1 : Int32) (p2 : Int32) (X : tg_X) (hl0 : tg_l X = l) (C : tg_C X D 3 cX1_giveTides RX1 1 21 0 0) (V : tg_V X) (q_c_at : Nat → Int32) (hs : fX1_giveTides c_at p1 p2 = some q_c_at) (hE : tg_Ev X D 0 0 cX1_giveTides (tw_C D c0 c1 c2 t0 t1 t2 q_c_at c_past c_known t_pips t_many t_berths t_goal)) : tg_G X D 3 0 0 (tw_C D c0 c1 c2 t0 t1 t2 c_at c_past c_known t_pips t_many t_berths t_goal) [(0, .ref c0), (1, .int p1), (2, .int p2)] 0 [] := by
  unfold fX1_giveTides at hs
  refine tg_aload_n C dX1_giveTides_0 rfl 0 rfl ?_
  refine tg_get (v := .ref c1) C cfX1 0 rfl 1 (by decide) wm_196 rfl dX1_giveTides_1 ?_
  refine tg_iconst (v := 2) C dX1_giveTides_4 (by decide) ?_
  refine tg_iload_n C dX1_giveTides_5 rfl 1 rfl ?_
  refine tg_iadd C dX1_giveTides_6 ?_
  refine tg_aload_n C dX1_giveTides_7 rfl 0 rfl ?_
  refine tg_iload_n C dX1_giveTides_8 rfl 1 rfl ?_
  obtain ⟨rr1, ee2, hs⟩ := tg_b1_e hs
  refine tg_pVs (As := [.int p1]) (rest := [.int (2 + p1), .ref c1]) C hl0 (kX1_tidesOf l D c0 c1 c2 t0 t1 t2 c_at c_past c_known t_pips t_many t_berths t_goal p1 rr1 ee2) wm_473 meX1_tidesOf (by decide) rfl rfl rfl rfl (Nat.le_of_ble_eq_true rfl) dX1_giveTides_9 ?_
  refine tg_iload_n C dX1_giveTides_12 rfl 2 rfl ?_
  refine tg_iadd C dX1_giveTides_13 ?_
  refine tg_sipush (v := 999) C dX1_giveTides_14 (by decide) ?_
  refine tg_mmin C wm_474 wm_293 wm_68 wm_294 ⟨Nat.le_of_ble_eq_true rfl, Nat.le_of_ble_eq_true rfl, Nat.le_of_ble_eq_true rfl, Nat.le_of_ble_eq_true rfl⟩ dX1_giveTides_17 ?_
  obtain ⟨vv3, evv3, hs⟩ := tg_nm_e hs
  refine tg_topi evv3 ?_
  obtain ⟨hh5, hs⟩ := tg_ck_e hs
  obtain ⟨gg4, egg4, hs⟩ := tg_nm_e hs
  refine tg_iast (ws' := (tw_C D c0 c1 c2 t0 t1 t2 gg4 c_past c_known t_pips t_many t_berths t_goal)) C V 1 0 rfl rfl hh5 egg4 rfl dX1_giveTides_20 ?_
  obtain rfl := Option.some.inj hs
  exact tg_vret hE dX1_giveTides_21
set_option maxHeartbeats 2000000 in
set_option maxRecDepth 20000 in
theorem kX1_giveTides (l : Launch) (D : tg_D) (c0 c1 c2 t0 t1 t2 : Nat) (c_at : Nat → Int32) (c_past : Nat → Int32) (c_known : Int32) (t_pips : Nat → Int32) (t_many : Nat → Int32) (t_berths : Int32) (t_goal : Int32) (p1 : Int32) (p2 : Int32) (q_c_at : Nat → Int32) (hs : fX1_giveTides c_at p1 p2 = some q_c_at) : Met l yX1_giveTides [Cond.code yX1_giveTides cX1_giveTides 3 none] (tg_rm 1 21) (tg_Pre D (tw_C D c0 c1 c2 t0 t1 t2 c_at c_past c_known t_pips t_many t_berths t_goal) [.ref c0, .int p1, .int p2]) (tg_Qe none D (tw_C D c0 c1 c2 t0 t1 t2 q_c_at c_past c_known t_pips t_many t_berths t_goal) (tg_Ad (tw_C D c0 c1 c2 t0 t1 t2 c_at c_past c_known t_pips t_many t_berths t_goal))) 0 0 (tg_Ad (tw_C D c0 c1 c2 t0 t1 t2 c_at c_past c_known t_pips t_many t_berths t_goal)) := tg_metEv (by decide) (Nat.le_of_ble_eq_true rfl) (fun X hl0 C V hE => vX1_giveTides l D c0 c1 c2 t0 t1 t2 c_at c_past c_known t_pips t_many t_berths t_goal p1 p2 X hl0 C V q_c_at hs hE)
def fX1_endTurn (c_at : Nat → Int32) (t_goal : Int32) : Option ((Nat → Int32)) := tg_b1 (fX1_winner c_at t_goal) fun rr1 => if rr1 = (-9) then (tg_nm (1 - (c_at 7)) fun vv4 => tg_b1 (fX1_isBlind c_at vv4) fun rr5 => if rr5 = 0 then (tg_nm (upd c_at 7 vv4) fun gg8 => some gg8) else (tg_b1 (fX1_lies c_at) fun rr9 => if ¬ rr9 = 0 then (tg_nm (upd c_at 7 vv4) fun gg12 => some gg12) else (tg_ck (4 + vv4) 9 <| tg_nm (upd c_at (Int32.toNatClampNeg (4 + vv4)) 0) fun gg13 => some gg13))) else (some c_at)
set_option maxHeartbeats 2000000 in
set_option maxRecDepth 20000 in
theorem vX1_endTurn (l : Launch) (D : tg_D) (c0 c1 c2 t0 t1 t2 : Nat) (c_at : Nat → Int32) (c_past : Nat → Int32) (c_known : Int32) (t_pips : Nat → Int32) (t_many : Nat → Int32) (t_berths : Int32) (t_goal : Int32) (X : tg_X) (hl0 : tg_l X = l) (C : tg_C X D 2 cX1_endTurn RX1 2 42 0 0) (V : tg_V X) (q_c_at : Nat → Int32) (hs : fX1_endTurn c_at t_goal = some q_c_at) (hE : tg_Ev X D 0 0 cX1_endTurn (tw_C D c0 c1 c2 t0 t1 t2 q_c_at c_past c_known t_pips t_many t_berths t_goal)) : tg_G X D 2 0 0 (tw_C D c0 c1 c2 t0 t1 t2 c_at c_past c_known t_pips t_many t_berths t_goal) [(0, .ref c0)] 0 [] := by
  unfold fX1_endTurn at hs
  refine tg_aload_n C dX1_endTurn_0 rfl 0 rfl ?_
  obtain ⟨rr1, ee2, hs⟩ := tg_b1_e hs
  refine tg_pVs (As := []) (rest := []) C hl0 (kX1_winner l D c0 c1 c2 t0 t1 t2 c_at c_past c_known t_pips t_many t_berths t_goal rr1 ee2) wm_479 meX1_winner (by decide) rfl rfl rfl rfl (Nat.le_of_ble_eq_true rfl) dX1_endTurn_1 ?_
  refine tg_bipush (v := (-9)) C dX1_endTurn_4 (by decide) ?_
  refine tg_icmp_eq (tgt := 10) C dX1_endTurn_6 (by decide) (fun cc3 => ?_) (fun cc3 => ?_)
  · have hs := tg_t cc3 hs
    refine tg_iconst (v := 1) C dX1_endTurn_10 (by decide) ?_
    refine tg_aload_n C dX1_endTurn_11 rfl 0 rfl ?_
    refine tg_get (v := .ref c1) C cfX1 0 rfl 1 (by decide) wm_196 rfl dX1_endTurn_12 ?_
    refine tg_bipush (v := 7) C dX1_endTurn_15 (by decide) ?_
    refine tg_iald C 1 0 rfl rfl (tg_vin (by decide)) dX1_endTurn_17 ?_
    refine tg_topi (y := c_at 7) rfl ?_
    refine tg_isub C dX1_endTurn_18 ?_
    obtain ⟨vv4, evv4, hs⟩ := tg_nm_e hs
    refine tg_topi evv4 ?_
    refine tg_istore_n (lv' := [(1, .int vv4), (0, .ref c0)]) C dX1_endTurn_19 rfl (by decide) rfl ?_
    refine tg_aload_n C dX1_endTurn_20 rfl 1 rfl ?_
    refine tg_iload_n C dX1_endTurn_21 rfl 0 rfl ?_
    obtain ⟨rr5, ee6, hs⟩ := tg_b1_e hs
    refine tg_pVs (As := [.int vv4]) (rest := []) C hl0 (kX1_isBlind l D c0 c1 c2 t0 t1 t2 c_at c_past c_known t_pips t_many t_berths t_goal vv4 rr5 ee6) wm_480 meX1_isBlind (by decide) rfl rfl rfl rfl (Nat.le_of_ble_eq_true rfl) dX1_endTurn_22 ?_
    refine tg_if_eq (tgt := 47) C dX1_endTurn_25 (by decide) (fun cc7 => ?_) (fun cc7 => ?_)
    · have hs := tg_t cc7 hs
      refine tg_aload_n C dX1_endTurn_47 rfl 1 rfl ?_
      refine tg_get (v := .ref c1) C cfX1 0 rfl 1 (by decide) wm_196 rfl dX1_endTurn_48 ?_
      refine tg_bipush (v := 7) C dX1_endTurn_51 (by decide) ?_
      refine tg_iload_n C dX1_endTurn_53 rfl 0 rfl ?_
      obtain ⟨gg8, egg8, hs⟩ := tg_nm_e hs
      refine tg_iast (ws' := (tw_C D c0 c1 c2 t0 t1 t2 gg8 c_past c_known t_pips t_many t_berths t_goal)) C V 1 0 rfl rfl (tg_vin (by decide)) (by rw [egg8]; rfl) rfl dX1_endTurn_54 ?_
      obtain rfl := Option.some.inj hs
      exact tg_vret hE dX1_endTurn_55
    · have hs := tg_f cc7 hs
      refine tg_aload_n C dX1_endTurn_28 rfl 1 rfl ?_
      obtain ⟨rr9, ee10, hs⟩ := tg_b1_e hs
      refine tg_pVs (As := []) (rest := []) C hl0 (kX1_lies l D c0 c1 c2 t0 t1 t2 c_at c_past c_known t_pips t_many t_berths t_goal rr9 ee10) wm_444 meX1_lies (by decide) rfl rfl rfl rfl (Nat.le_of_ble_eq_true rfl) dX1_endTurn_29 ?_
      refine tg_if_ne (tgt := 47) C dX1_endTurn_32 (by decide) (fun cc11 => ?_) (fun cc11 => ?_)
      · have hs := tg_t cc11 hs
        refine tg_aload_n C dX1_endTurn_47 rfl 1 rfl ?_
        refine tg_get (v := .ref c1) C cfX1 0 rfl 1 (by decide) wm_196 rfl dX1_endTurn_48 ?_
        refine tg_bipush (v := 7) C dX1_endTurn_51 (by decide) ?_
        refine tg_iload_n C dX1_endTurn_53 rfl 0 rfl ?_
        obtain ⟨gg12, egg12, hs⟩ := tg_nm_e hs
        refine tg_iast (ws' := (tw_C D c0 c1 c2 t0 t1 t2 gg12 c_past c_known t_pips t_many t_berths t_goal)) C V 1 0 rfl rfl (tg_vin (by decide)) (by rw [egg12]; rfl) rfl dX1_endTurn_54 ?_
        obtain rfl := Option.some.inj hs
        exact tg_vret hE dX1_endTurn_55
      · have hs := tg_nf cc11 hs
        refine tg_aload_n C dX1_endTurn_35 rfl 1 rfl ?_
        refine tg_get (v := .ref c1) C cfX1 0 rfl 1 (by decide) wm_196 rfl dX1_endTurn_36 ?_
        refine tg_iconst (v := 4) C dX1_endTurn_39 (by decide) ?_
        refine tg_iload_n C dX1_endTurn_40 rfl 0 rfl ?_
        refine tg_iadd C dX1_endTurn_41 ?_
        refine tg_iconst (v := 0) C dX1_endTurn_42 (by decide) ?_
        obtain ⟨hh14, hs⟩ := tg_ck_e hs
        obtain ⟨gg13, egg13, hs⟩ := tg_nm_e hs
        refine tg_iast (ws' := (tw_C D c0 c1 c2 t0 t1 t2 gg13 c_past c_known t_pips t_many t_berths t_goal)) C V 1 0 rfl rfl hh14 egg13 rfl dX1_endTurn_43 ?_
        refine tg_goto (tgt := 55) C dX1_endTurn_44 (by decide) ?_
        obtain rfl := Option.some.inj hs
        exact tg_vret hE dX1_endTurn_55
  · have hs := tg_f cc3 hs
    obtain rfl := Option.some.inj hs
    exact tg_vret hE dX1_endTurn_9
set_option maxHeartbeats 2000000 in
set_option maxRecDepth 20000 in
theorem kX1_endTurn (l : Launch) (D : tg_D) (c0 c1 c2 t0 t1 t2 : Nat) (c_at : Nat → Int32) (c_past : Nat → Int32) (c_known : Int32) (t_pips : Nat → Int32) (t_many : Nat → Int32) (t_berths : Int32) (t_goal : Int32) (q_c_at : Nat → Int32) (hs : fX1_endTurn c_at t_goal = some q_c_at) : Met l yX1_endTurn [Cond.code yX1_endTurn cX1_endTurn 2 none] (tg_rm 2 42) (tg_Pre D (tw_C D c0 c1 c2 t0 t1 t2 c_at c_past c_known t_pips t_many t_berths t_goal) [.ref c0]) (tg_Qe none D (tw_C D c0 c1 c2 t0 t1 t2 q_c_at c_past c_known t_pips t_many t_berths t_goal) (tg_Ad (tw_C D c0 c1 c2 t0 t1 t2 c_at c_past c_known t_pips t_many t_berths t_goal))) 0 0 (tg_Ad (tw_C D c0 c1 c2 t0 t1 t2 c_at c_past c_known t_pips t_many t_berths t_goal)) := tg_metEv (by decide) (Nat.le_of_ble_eq_true rfl) (fun X hl0 C V hE => vX1_endTurn l D c0 c1 c2 t0 t1 t2 c_at c_past c_known t_pips t_many t_berths t_goal X hl0 C V q_c_at hs hE)
def fX1_take (c_at : Nat → Int32) (c_past : Nat → Int32) (c_known : Int32) (t_goal : Int32) (p1 : Int32) : Option (Int32 × (Nat → Int32) × (Nat → Int32) × Int32) := tg_b2 (fX1_remember c_at c_past c_known) fun gg1 vv2 => tg_b1 (fX1_tidesFor c_at p1) fun rr4 => tg_ck (0 + (c_at 7)) 9 <| tg_b1 (fX4_bit p1) fun rr7 => tg_nm ((c_at (Int32.toNatClampNeg (0 + (c_at 7)))) ||| rr7) fun vv9 => tg_ck (0 + (c_at 7)) 9 <| tg_nm (upd c_at (Int32.toNatClampNeg (0 + (c_at 7))) vv9) fun gg10 => tg_b1 (fX1_giveTides gg10 (1 - (gg10 7)) rr4) fun gg12 => tg_nm (upd gg12 8 (-9)) fun gg14 => tg_b1 (fX1_endTurn gg14 t_goal) fun gg15 => some (rr4, gg15, gg1, vv2)
set_option maxHeartbeats 2000000 in
set_option maxRecDepth 20000 in
theorem vX1_take (l : Launch) (D : tg_D) (c0 c1 c2 t0 t1 t2 : Nat) (c_at : Nat → Int32) (c_past : Nat → Int32) (c_known : Int32) (t_pips : Nat → Int32) (t_many : Nat → Int32) (t_berths : Int32) (t_goal : Int32) (p1 : Int32) (X : tg_X) (hl0 : tg_l X = l) (C : tg_C X D 3 cX1_take RX1 3 63 0 0) (V : tg_V X) (r : Int32) (q_c_at : Nat → Int32) (q_c_past : Nat → Int32) (q_c_known : Int32) (hs : fX1_take c_at c_past c_known t_goal p1 = some (r, q_c_at, q_c_past, q_c_known)) (hE : tg_Ei X D 0 0 cX1_take .int r (tw_C D c0 c1 c2 t0 t1 t2 q_c_at q_c_past q_c_known t_pips t_many t_berths t_goal)) : tg_G X D 3 0 0 (tw_C D c0 c1 c2 t0 t1 t2 c_at c_past c_known t_pips t_many t_berths t_goal) [(0, .ref c0), (1, .int p1)] 0 [] := by
  unfold fX1_take at hs
  refine tg_aload_n C dX1_take_0 rfl 0 rfl ?_
  obtain ⟨gg1, vv2, ee3, hs⟩ := tg_b2_e hs
  refine tg_eVs (ws' := (tw_C D c0 c1 c2 t0 t1 t2 c_at gg1 vv2 t_pips t_many t_berths t_goal)) (As := []) (rest := []) C V hl0 (kX1_remember l D c0 c1 c2 t0 t1 t2 c_at c_past c_known t_pips t_many t_berths t_goal gg1 vv2 ee3) wm_429 meX1_remember (by decide) rfl rfl rfl rfl (Nat.le_of_ble_eq_true rfl) rfl dX1_take_1 ?_
  refine tg_aload_n C dX1_take_4 rfl 0 rfl ?_
  refine tg_iload_n C dX1_take_5 rfl 1 rfl ?_
  obtain ⟨rr4, ee5, hs⟩ := tg_b1_e hs
  refine tg_pVs (As := [.int p1]) (rest := []) C hl0 (kX1_tidesFor l D c0 c1 c2 t0 t1 t2 c_at gg1 vv2 t_pips t_many t_berths t_goal p1 rr4 ee5) wm_464 meX1_tidesFor (by decide) rfl rfl rfl rfl (Nat.le_of_ble_eq_true rfl) dX1_take_6 ?_
  refine tg_istore_n (lv' := [(2, .int rr4), (0, .ref c0), (1, .int p1)]) C dX1_take_9 rfl (by decide) rfl ?_
  refine tg_aload_n C dX1_take_10 rfl 1 rfl ?_
  refine tg_get (v := .ref c1) C cfX1 0 rfl 1 (by decide) wm_196 rfl dX1_take_11 ?_
  refine tg_iconst (v := 0) C dX1_take_14 (by decide) ?_
  refine tg_aload_n C dX1_take_15 rfl 1 rfl ?_
  refine tg_get (v := .ref c1) C cfX1 0 rfl 1 (by decide) wm_196 rfl dX1_take_16 ?_
  refine tg_bipush (v := 7) C dX1_take_19 (by decide) ?_
  refine tg_iald C 1 0 rfl rfl (tg_vin (by decide)) dX1_take_21 ?_
  refine tg_topi (y := c_at 7) rfl ?_
  refine tg_iadd C dX1_take_22 ?_
  refine tg_dup2 C dX1_take_23 rfl rfl ?_
  obtain ⟨hh6, hs⟩ := tg_ck_e hs
  refine tg_iald C 1 0 rfl rfl hh6 dX1_take_24 ?_
  refine tg_iload_n C dX1_take_25 rfl 2 rfl ?_
  obtain ⟨rr7, ee8, hs⟩ := tg_b1_e hs
  refine tg_pN (As := [.int p1]) (rest := [.int (c_at (Int32.toNatClampNeg (0 + (c_at 7)))), .int (0 + (c_at 7)), .ref c1]) C hl0 (kX4_bit l D p1 rr7 ee8) wm_468 meX4_bit (by decide) rfl rfl (Nat.le_of_ble_eq_true rfl) dX1_take_26 ?_
  refine tg_ior C dX1_take_29 ?_
  obtain ⟨vv9, evv9, hs⟩ := tg_nm_e hs
  refine tg_topi evv9 ?_
  obtain ⟨hh11, hs⟩ := tg_ck_e hs
  obtain ⟨gg10, egg10, hs⟩ := tg_nm_e hs
  refine tg_iast (ws' := (tw_C D c0 c1 c2 t0 t1 t2 gg10 gg1 vv2 t_pips t_many t_berths t_goal)) C V 1 0 rfl rfl hh11 egg10 rfl dX1_take_30 ?_
  refine tg_aload_n C dX1_take_31 rfl 1 rfl ?_
  refine tg_iconst (v := 1) C dX1_take_32 (by decide) ?_
  refine tg_aload_n C dX1_take_33 rfl 1 rfl ?_
  refine tg_get (v := .ref c1) C cfX1 0 rfl 1 (by decide) wm_196 rfl dX1_take_34 ?_
  refine tg_bipush (v := 7) C dX1_take_37 (by decide) ?_
  refine tg_iald C 1 0 rfl rfl (tg_vin (by decide)) dX1_take_39 ?_
  refine tg_topi (y := gg10 7) rfl ?_
  refine tg_isub C dX1_take_40 ?_
  refine tg_iload_n C dX1_take_41 rfl 0 rfl ?_
  obtain ⟨gg12, ee13, hs⟩ := tg_b1_e hs
  refine tg_eVs (ws' := (tw_C D c0 c1 c2 t0 t1 t2 gg12 gg1 vv2 t_pips t_many t_berths t_goal)) (As := [.int (1 - (gg10 7)), .int rr4]) (rest := []) C V hl0 (kX1_giveTides l D c0 c1 c2 t0 t1 t2 gg10 gg1 vv2 t_pips t_many t_berths t_goal (1 - (gg10 7)) rr4 gg12 ee13) wm_469 meX1_giveTides (by decide) rfl rfl rfl rfl (Nat.le_of_ble_eq_true rfl) rfl dX1_take_42 ?_
  refine tg_aload_n C dX1_take_45 rfl 1 rfl ?_
  refine tg_get (v := .ref c1) C cfX1 0 rfl 1 (by decide) wm_196 rfl dX1_take_46 ?_
  refine tg_bipush (v := 8) C dX1_take_49 (by decide) ?_
  refine tg_bipush (v := (-9)) C dX1_take_51 (by decide) ?_
  obtain ⟨gg14, egg14, hs⟩ := tg_nm_e hs
  refine tg_iast (ws' := (tw_C D c0 c1 c2 t0 t1 t2 gg14 gg1 vv2 t_pips t_many t_berths t_goal)) C V 1 0 rfl rfl (tg_vin (by decide)) (by rw [egg14]; rfl) rfl dX1_take_53 ?_
  refine tg_aload_n C dX1_take_54 rfl 1 rfl ?_
  obtain ⟨gg15, ee16, hs⟩ := tg_b1_e hs
  refine tg_eVs (ws' := (tw_C D c0 c1 c2 t0 t1 t2 gg15 gg1 vv2 t_pips t_many t_berths t_goal)) (As := []) (rest := []) C V hl0 (kX1_endTurn l D c0 c1 c2 t0 t1 t2 gg14 gg1 vv2 t_pips t_many t_berths t_goal gg15 ee16) wm_475 meX1_endTurn (by decide) rfl rfl rfl rfl (Nat.le_of_ble_eq_true rfl) rfl dX1_take_55 ?_
  refine tg_iload_n C dX1_take_58 rfl 0 rfl ?_
  obtain ⟨rfl, rfl, rfl, rfl⟩ := tg_i4 hs
  exact tg_iret hE rfl dX1_take_59
set_option maxHeartbeats 2000000 in
set_option maxRecDepth 20000 in
theorem kX1_take (l : Launch) (D : tg_D) (c0 c1 c2 t0 t1 t2 : Nat) (c_at : Nat → Int32) (c_past : Nat → Int32) (c_known : Int32) (t_pips : Nat → Int32) (t_many : Nat → Int32) (t_berths : Int32) (t_goal : Int32) (p1 : Int32) (r : Int32) (q_c_at : Nat → Int32) (q_c_past : Nat → Int32) (q_c_known : Int32) (hs : fX1_take c_at c_past c_known t_goal p1 = some (r, q_c_at, q_c_past, q_c_known)) : Met l yX1_take [Cond.code yX1_take cX1_take 3 (some .int)] (tg_rm 3 63) (tg_Pre D (tw_C D c0 c1 c2 t0 t1 t2 c_at c_past c_known t_pips t_many t_berths t_goal) [.ref c0, .int p1]) (tg_Qe (some (.int r)) D (tw_C D c0 c1 c2 t0 t1 t2 q_c_at q_c_past q_c_known t_pips t_many t_berths t_goal) (tg_Ad (tw_C D c0 c1 c2 t0 t1 t2 c_at c_past c_known t_pips t_many t_berths t_goal))) 0 0 (tg_Ad (tw_C D c0 c1 c2 t0 t1 t2 c_at c_past c_known t_pips t_many t_berths t_goal)) := tg_metEi (by decide) (Nat.le_of_ble_eq_true rfl) (fun X hl0 C V hE => vX1_take l D c0 c1 c2 t0 t1 t2 c_at c_past c_known t_pips t_many t_berths t_goal p1 X hl0 C V r q_c_at q_c_past q_c_known hs hE)
def fX1_pass (c_at : Nat → Int32) (c_past : Nat → Int32) (c_known : Int32) (t_goal : Int32) : Option ((Nat → Int32) × (Nat → Int32) × Int32) := tg_b2 (fX1_remember c_at c_past c_known) fun gg1 vv2 => tg_nm (upd c_at 8 (-9)) fun gg4 => tg_b1 (fX1_endTurn gg4 t_goal) fun gg5 => some (gg5, gg1, vv2)
set_option maxHeartbeats 2000000 in
set_option maxRecDepth 20000 in
theorem vX1_pass (l : Launch) (D : tg_D) (c0 c1 c2 t0 t1 t2 : Nat) (c_at : Nat → Int32) (c_past : Nat → Int32) (c_known : Int32) (t_pips : Nat → Int32) (t_many : Nat → Int32) (t_berths : Int32) (t_goal : Int32) (X : tg_X) (hl0 : tg_l X = l) (C : tg_C X D 1 cX1_pass RX1 3 63 0 0) (V : tg_V X) (q_c_at : Nat → Int32) (q_c_past : Nat → Int32) (q_c_known : Int32) (hs : fX1_pass c_at c_past c_known t_goal = some (q_c_at, q_c_past, q_c_known)) (hE : tg_Ev X D 0 0 cX1_pass (tw_C D c0 c1 c2 t0 t1 t2 q_c_at q_c_past q_c_known t_pips t_many t_berths t_goal)) : tg_G X D 1 0 0 (tw_C D c0 c1 c2 t0 t1 t2 c_at c_past c_known t_pips t_many t_berths t_goal) [(0, .ref c0)] 0 [] := by
  unfold fX1_pass at hs
  refine tg_aload_n C dX1_pass_0 rfl 0 rfl ?_
  obtain ⟨gg1, vv2, ee3, hs⟩ := tg_b2_e hs
  refine tg_eVs (ws' := (tw_C D c0 c1 c2 t0 t1 t2 c_at gg1 vv2 t_pips t_many t_berths t_goal)) (As := []) (rest := []) C V hl0 (kX1_remember l D c0 c1 c2 t0 t1 t2 c_at c_past c_known t_pips t_many t_berths t_goal gg1 vv2 ee3) wm_429 meX1_remember (by decide) rfl rfl rfl rfl (Nat.le_of_ble_eq_true rfl) rfl dX1_pass_1 ?_
  refine tg_aload_n C dX1_pass_4 rfl 0 rfl ?_
  refine tg_get (v := .ref c1) C cfX1 0 rfl 1 (by decide) wm_196 rfl dX1_pass_5 ?_
  refine tg_bipush (v := 8) C dX1_pass_8 (by decide) ?_
  refine tg_bipush (v := (-9)) C dX1_pass_10 (by decide) ?_
  obtain ⟨gg4, egg4, hs⟩ := tg_nm_e hs
  refine tg_iast (ws' := (tw_C D c0 c1 c2 t0 t1 t2 gg4 gg1 vv2 t_pips t_many t_berths t_goal)) C V 1 0 rfl rfl (tg_vin (by decide)) (by rw [egg4]; rfl) rfl dX1_pass_12 ?_
  refine tg_aload_n C dX1_pass_13 rfl 0 rfl ?_
  obtain ⟨gg5, ee6, hs⟩ := tg_b1_e hs
  refine tg_eVs (ws' := (tw_C D c0 c1 c2 t0 t1 t2 gg5 gg1 vv2 t_pips t_many t_berths t_goal)) (As := []) (rest := []) C V hl0 (kX1_endTurn l D c0 c1 c2 t0 t1 t2 gg4 gg1 vv2 t_pips t_many t_berths t_goal gg5 ee6) wm_475 meX1_endTurn (by decide) rfl rfl rfl rfl (Nat.le_of_ble_eq_true rfl) rfl dX1_pass_14 ?_
  obtain ⟨rfl, rfl, rfl⟩ := tg_i3 hs
  exact tg_vret hE dX1_pass_17
set_option maxHeartbeats 2000000 in
set_option maxRecDepth 20000 in
theorem kX1_pass (l : Launch) (D : tg_D) (c0 c1 c2 t0 t1 t2 : Nat) (c_at : Nat → Int32) (c_past : Nat → Int32) (c_known : Int32) (t_pips : Nat → Int32) (t_many : Nat → Int32) (t_berths : Int32) (t_goal : Int32) (q_c_at : Nat → Int32) (q_c_past : Nat → Int32) (q_c_known : Int32) (hs : fX1_pass c_at c_past c_known t_goal = some (q_c_at, q_c_past, q_c_known)) : Met l yX1_pass [Cond.code yX1_pass cX1_pass 1 none] (tg_rm 3 63) (tg_Pre D (tw_C D c0 c1 c2 t0 t1 t2 c_at c_past c_known t_pips t_many t_berths t_goal) [.ref c0]) (tg_Qe none D (tw_C D c0 c1 c2 t0 t1 t2 q_c_at q_c_past q_c_known t_pips t_many t_berths t_goal) (tg_Ad (tw_C D c0 c1 c2 t0 t1 t2 c_at c_past c_known t_pips t_many t_berths t_goal))) 0 0 (tg_Ad (tw_C D c0 c1 c2 t0 t1 t2 c_at c_past c_known t_pips t_many t_berths t_goal)) := tg_metEv (by decide) (Nat.le_of_ble_eq_true rfl) (fun X hl0 C V hE => vX1_pass l D c0 c1 c2 t0 t1 t2 c_at c_past c_known t_pips t_many t_berths t_goal X hl0 C V q_c_at q_c_past q_c_known hs hE)
def fX1_leave (c_at : Nat → Int32) (c_past : Nat → Int32) (c_known : Int32) (t_goal : Int32) : Option ((Nat → Int32) × (Nat → Int32) × Int32) := tg_b2 (fX1_remember c_at c_past c_known) fun gg1 vv2 => tg_b1 (fX1_giveTides c_at (1 - (c_at 7)) 1) fun gg4 => tg_b1 (fX1_endTurn gg4 t_goal) fun gg6 => some (gg6, gg1, vv2)
set_option maxHeartbeats 2000000 in
set_option maxRecDepth 20000 in
theorem vX1_leave (l : Launch) (D : tg_D) (c0 c1 c2 t0 t1 t2 : Nat) (c_at : Nat → Int32) (c_past : Nat → Int32) (c_known : Int32) (t_pips : Nat → Int32) (t_many : Nat → Int32) (t_berths : Int32) (t_goal : Int32) (X : tg_X) (hl0 : tg_l X = l) (C : tg_C X D 1 cX1_leave RX1 3 63 0 0) (V : tg_V X) (q_c_at : Nat → Int32) (q_c_past : Nat → Int32) (q_c_known : Int32) (hs : fX1_leave c_at c_past c_known t_goal = some (q_c_at, q_c_past, q_c_known)) (hE : tg_Ev X D 0 0 cX1_leave (tw_C D c0 c1 c2 t0 t1 t2 q_c_at q_c_past q_c_known t_pips t_many t_berths t_goal)) : tg_G X D 1 0 0 (tw_C D c0 c1 c2 t0 t1 t2 c_at c_past c_known t_pips t_many t_berths t_goal) [(0, .ref c0)] 0 [] := by
  unfold fX1_leave at hs
  refine tg_aload_n C dX1_leave_0 rfl 0 rfl ?_
  obtain ⟨gg1, vv2, ee3, hs⟩ := tg_b2_e hs
  refine tg_eVs (ws' := (tw_C D c0 c1 c2 t0 t1 t2 c_at gg1 vv2 t_pips t_many t_berths t_goal)) (As := []) (rest := []) C V hl0 (kX1_remember l D c0 c1 c2 t0 t1 t2 c_at c_past c_known t_pips t_many t_berths t_goal gg1 vv2 ee3) wm_429 meX1_remember (by decide) rfl rfl rfl rfl (Nat.le_of_ble_eq_true rfl) rfl dX1_leave_1 ?_
  refine tg_aload_n C dX1_leave_4 rfl 0 rfl ?_
  refine tg_iconst (v := 1) C dX1_leave_5 (by decide) ?_
  refine tg_aload_n C dX1_leave_6 rfl 0 rfl ?_
  refine tg_get (v := .ref c1) C cfX1 0 rfl 1 (by decide) wm_196 rfl dX1_leave_7 ?_
  refine tg_bipush (v := 7) C dX1_leave_10 (by decide) ?_
  refine tg_iald C 1 0 rfl rfl (tg_vin (by decide)) dX1_leave_12 ?_
  refine tg_topi (y := c_at 7) rfl ?_
  refine tg_isub C dX1_leave_13 ?_
  refine tg_iconst (v := 1) C dX1_leave_14 (by decide) ?_
  obtain ⟨gg4, ee5, hs⟩ := tg_b1_e hs
  refine tg_eVs (ws' := (tw_C D c0 c1 c2 t0 t1 t2 gg4 gg1 vv2 t_pips t_many t_berths t_goal)) (As := [.int (1 - (c_at 7)), .int 1]) (rest := []) C V hl0 (kX1_giveTides l D c0 c1 c2 t0 t1 t2 c_at gg1 vv2 t_pips t_many t_berths t_goal (1 - (c_at 7)) 1 gg4 ee5) wm_469 meX1_giveTides (by decide) rfl rfl rfl rfl (Nat.le_of_ble_eq_true rfl) rfl dX1_leave_15 ?_
  refine tg_aload_n C dX1_leave_18 rfl 0 rfl ?_
  obtain ⟨gg6, ee7, hs⟩ := tg_b1_e hs
  refine tg_eVs (ws' := (tw_C D c0 c1 c2 t0 t1 t2 gg6 gg1 vv2 t_pips t_many t_berths t_goal)) (As := []) (rest := []) C V hl0 (kX1_endTurn l D c0 c1 c2 t0 t1 t2 gg4 gg1 vv2 t_pips t_many t_berths t_goal gg6 ee7) wm_475 meX1_endTurn (by decide) rfl rfl rfl rfl (Nat.le_of_ble_eq_true rfl) rfl dX1_leave_19 ?_
  obtain ⟨rfl, rfl, rfl⟩ := tg_i3 hs
  exact tg_vret hE dX1_leave_22
set_option maxHeartbeats 2000000 in
set_option maxRecDepth 20000 in
theorem kX1_leave (l : Launch) (D : tg_D) (c0 c1 c2 t0 t1 t2 : Nat) (c_at : Nat → Int32) (c_past : Nat → Int32) (c_known : Int32) (t_pips : Nat → Int32) (t_many : Nat → Int32) (t_berths : Int32) (t_goal : Int32) (q_c_at : Nat → Int32) (q_c_past : Nat → Int32) (q_c_known : Int32) (hs : fX1_leave c_at c_past c_known t_goal = some (q_c_at, q_c_past, q_c_known)) : Met l yX1_leave [Cond.code yX1_leave cX1_leave 1 none] (tg_rm 3 63) (tg_Pre D (tw_C D c0 c1 c2 t0 t1 t2 c_at c_past c_known t_pips t_many t_berths t_goal) [.ref c0]) (tg_Qe none D (tw_C D c0 c1 c2 t0 t1 t2 q_c_at q_c_past q_c_known t_pips t_many t_berths t_goal) (tg_Ad (tw_C D c0 c1 c2 t0 t1 t2 c_at c_past c_known t_pips t_many t_berths t_goal))) 0 0 (tg_Ad (tw_C D c0 c1 c2 t0 t1 t2 c_at c_past c_known t_pips t_many t_berths t_goal)) := tg_metEv (by decide) (Nat.le_of_ble_eq_true rfl) (fun X hl0 C V hE => vX1_leave l D c0 c1 c2 t0 t1 t2 c_at c_past c_known t_pips t_many t_berths t_goal X hl0 C V q_c_at q_c_past q_c_known hs hE)
