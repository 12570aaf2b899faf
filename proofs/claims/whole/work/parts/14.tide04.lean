def fX4_bet_L7 (a_calm : Nat → Int32) (a_windy : Nat → Int32) (a_turns : Nat → Int32) (a_many : Int32) (c_at : Nat → Int32) (x_cb : Nat → Int32) (x_ct : Nat → Int32) (x_chalked : Int32) : Nat → Int32 → Int32 → Int32 → Option (Int32 × Int32 × Int32)
  | 0, _, _, _ => none
  | fuel + 1, n1, n2, n3 => if x_chalked ≤ n3 then (some (n1, n2, n3)) else (tg_b1 (fX4_offOf a_calm a_windy a_turns a_many c_at x_cb x_ct n3) fun rr2 => tg_nm (if 0 ≤ rr2 then rr2 else 0 - rr2) fun vv4 => tg_b2 (if vv4 ≤ n2 then (some (n1, n2)) else (some (n3, vv4))) fun (vv6 : Int32) (vv7 : Int32) => tg_nm (n3 + 1) fun vv9 => fX4_bet_L7 a_calm a_windy a_turns a_many c_at x_cb x_ct x_chalked fuel vv6 vv7 vv9)
def fX4_bet (a_calm : Nat → Int32) (a_windy : Nat → Int32) (a_turns : Nat → Int32) (a_many : Int32) (c_at : Nat → Int32) (x_cb : Nat → Int32) (x_ct : Nat → Int32) (x_chalked : Int32) : Option (Int32) := tg_b3 (fX4_bet_L7 a_calm a_windy a_turns a_many c_at x_cb x_ct x_chalked 400 (-9) 0 0) fun vv11 vv12 vv13 => some vv11
set_option maxHeartbeats 2000000 in
set_option maxRecDepth 20000 in
theorem vX4_bet_L7 (l : Launch) (D : tg_D) (h0 x0 t0 t1 t2 r0 e0 e1 e2 rt z0 b0 b1 b2 b3 b4 c0 c1 c2 m0 i0 i1 i2 j0 j1 j2 k0 k1 k2 : Nat) (x_text : Nat → Int32) (x_typed : Int32) (t_pips : Nat → Int32) (t_many : Nat → Int32) (t_berths : Int32) (t_goal : Int32) (r_fault : Int32) (r_length : Int32) (r_kind : Int32) (r_start : Int32) (r_next : Int32) (r_number : Int32) (r_dice : Int32) (r_bt : Int32) (r_gt : Int32) (d_pips : Nat → Int32) (d_many : Nat → Int32) (d_berths : Int32) (d_goal : Int32) (a_shown : Nat → Int32) (a_calm : Nat → Int32) (a_windy : Nat → Int32) (a_turns : Nat → Int32) (a_many : Int32) (a_ever : Int32) (c_at : Nat → Int32) (c_past : Nat → Int32) (c_known : Int32) (i_at : Nat → Int32) (i_past : Nat → Int32) (i_known : Int32) (j_at : Nat → Int32) (j_past : Nat → Int32) (j_known : Int32) (x_kept : Nat → Int32) (x_cb : Nat → Int32) (x_ct : Nat → Int32) (x_chalked : Int32) (x_traced : Int64) (X : tg_X) (hl0 : tg_l X = l) (C : tg_C X D 5 cX4_bet RX4 5 110 0 0) (o_n1 : Int32) (o_n2 : Int32) (o_n3 : Int32) : ∀ (fuel : Nat) (n1 : Int32) (n2 : Int32) (n3 : Int32), fX4_bet_L7 a_calm a_windy a_turns a_many c_at x_cb x_ct x_chalked fuel n1 n2 n3 = some (o_n1, o_n2, o_n3) → tg_G X D 5 0 0 (tw_X D h0 x0 t0 t1 t2 r0 e0 e1 e2 rt z0 b0 b1 b2 b3 b4 c0 c1 c2 m0 i0 i1 i2 j0 j1 j2 k0 k1 k2 x_text x_typed t_pips t_many t_berths t_goal r_fault r_length r_kind r_start r_next r_number r_dice r_bt r_gt d_pips d_many d_berths d_goal a_shown a_calm a_windy a_turns a_many a_ever c_at c_past c_known i_at i_past i_known j_at j_past j_known x_kept x_cb x_ct x_chalked x_traced) [(0, .ref h0), (1, .int o_n1), (2, .int o_n2), (3, .int o_n3)] 42 [] → tg_G X D 5 0 0 (tw_X D h0 x0 t0 t1 t2 r0 e0 e1 e2 rt z0 b0 b1 b2 b3 b4 c0 c1 c2 m0 i0 i1 i2 j0 j1 j2 k0 k1 k2 x_text x_typed t_pips t_many t_berths t_goal r_fault r_length r_kind r_start r_next r_number r_dice r_bt r_gt d_pips d_many d_berths d_goal a_shown a_calm a_windy a_turns a_many a_ever c_at c_past c_known i_at i_past i_known j_at j_past j_known x_kept x_cb x_ct x_chalked x_traced) [(0, .ref h0), (1, .int n1), (2, .int n2), (3, .int n3)] 7 [] := by
  intro fuel
  induction fuel with
  | zero =>
    intro n1 n2 n3 hs _
    rw [fX4_bet_L7] at hs
    cases hs
  | succ fuel ih =>
    intro n1 n2 n3 hs J
    rw [fX4_bet_L7] at hs
    refine tg_iload_n C dX4_bet_7 rfl 3 rfl ?_
    refine tg_aload_n C dX4_bet_8 rfl 0 rfl ?_
    refine tg_get (v := .int x_chalked) C cfX4 0 rfl 10 (by decide) wm_249 rfl dX4_bet_9 ?_
    refine tg_icmp_ge (tgt := 42) C dX4_bet_12 (by decide) (fun cc1 => ?_) (fun cc1 => ?_)
    · have hs := tg_t cc1 hs
      obtain ⟨rfl, rfl, rfl⟩ := tg_i3 hs
      exact J
    · have hs := tg_f cc1 hs
      refine tg_aload_n C dX4_bet_15 rfl 0 rfl ?_
      refine tg_iload_n C dX4_bet_16 rfl 3 rfl ?_
      obtain ⟨rr2, ee3, hs⟩ := tg_b1_e hs
      refine tg_pVs (As := [.int n3]) (rest := []) C hl0 (kX4_offOf l D h0 x0 t0 t1 t2 r0 e0 e1 e2 rt z0 b0 b1 b2 b3 b4 c0 c1 c2 m0 i0 i1 i2 j0 j1 j2 k0 k1 k2 x_text x_typed t_pips t_many t_berths t_goal r_fault r_length r_kind r_start r_next r_number r_dice r_bt r_gt d_pips d_many d_berths d_goal a_shown a_calm a_windy a_turns a_many a_ever c_at c_past c_known i_at i_past i_known j_at j_past j_known x_kept x_cb x_ct x_chalked x_traced n3 rr2 ee3) wm_579 meX4_offOf (by decide) rfl rfl rfl rfl (Nat.le_of_ble_eq_true rfl) dX4_bet_17 ?_
      refine tg_mabs C wm_591 wm_592 wm_68 wm_593 ⟨Nat.le_of_ble_eq_true rfl, Nat.le_of_ble_eq_true rfl, Nat.le_of_ble_eq_true rfl, Nat.le_of_ble_eq_true rfl⟩ dX4_bet_20 ?_
      obtain ⟨vv4, evv4, hs⟩ := tg_nm_e hs
      refine tg_topi evv4 ?_
      refine tg_istore (lv' := [(4, .int vv4), (0, .ref h0), (1, .int n1), (2, .int n2), (3, .int n3)]) C dX4_bet_23 (by decide) rfl ?_
      refine tg_iload C dX4_bet_25 0 rfl ?_
      refine tg_iload_n C dX4_bet_27 rfl 3 rfl ?_
      obtain ⟨vv6, vv7, ee10, hs⟩ := tg_b2_e hs
      have JJ8 : tg_G X D 5 0 0 (tw_X D h0 x0 t0 t1 t2 r0 e0 e1 e2 rt z0 b0 b1 b2 b3 b4 c0 c1 c2 m0 i0 i1 i2 j0 j1 j2 k0 k1 k2 x_text x_typed t_pips t_many t_berths t_goal r_fault r_length r_kind r_start r_next r_number r_dice r_bt r_gt d_pips d_many d_berths d_goal a_shown a_calm a_windy a_turns a_many a_ever c_at c_past c_known i_at i_past i_known j_at j_past j_known x_kept x_cb x_ct x_chalked x_traced) [(0, .ref h0), (1, .int vv6), (2, .int vv7), (3, .int n3), (4, .int vv4)] 36 [] := by
        obtain ⟨vv9, evv9, hs⟩ := tg_nm_e hs
        refine tg_iinc (v := vv9) (lv' := [(3, .int vv9), (0, .ref h0), (1, .int vv6), (2, .int vv7), (4, .int vv4)]) C dX4_bet_36 3 rfl (by rw [evv9]; rfl) (by decide) rfl ?_
        refine tg_goto (tgt := 7) C dX4_bet_39 (by decide) ?_
        refine tg_lsub [1, 2, 3, 0] rfl ?_
        exact ih vv6 vv7 vv9 hs J
      have hs := ee10
      clear ee10
      refine tg_icmp_le (tgt := 36) C dX4_bet_28 (by decide) (fun cc5 => ?_) (fun cc5 => ?_)
      · have hs := tg_t cc5 hs
        obtain ⟨rfl, rfl⟩ := tg_i2 hs
        refine tg_lsub [1, 2, 3, 4, 0] rfl ?_
        exact JJ8
      · have hs := tg_f cc5 hs
        refine tg_iload_n C dX4_bet_31 rfl 4 rfl ?_
        refine tg_istore_n (lv' := [(1, .int n3), (4, .int vv4), (0, .ref h0), (2, .int n2), (3, .int n3)]) C dX4_bet_32 rfl (by decide) rfl ?_
        refine tg_iload C dX4_bet_33 1 rfl ?_
        refine tg_istore_n (lv' := [(2, .int vv4), (1, .int n3), (4, .int vv4), (0, .ref h0), (3, .int n3)]) C dX4_bet_35 rfl (by decide) rfl ?_
        obtain ⟨rfl, rfl⟩ := tg_i2 hs
        refine tg_lsub [3, 1, 0, 4, 2] rfl ?_
        exact JJ8
set_option maxHeartbeats 2000000 in
set_option maxRecDepth 20000 in
theorem vX4_bet (l : Launch) (D : tg_D) (h0 x0 t0 t1 t2 r0 e0 e1 e2 rt z0 b0 b1 b2 b3 b4 c0 c1 c2 m0 i0 i1 i2 j0 j1 j2 k0 k1 k2 : Nat) (x_text : Nat → Int32) (x_typed : Int32) (t_pips : Nat → Int32) (t_many : Nat → Int32) (t_berths : Int32) (t_goal : Int32) (r_fault : Int32) (r_length : Int32) (r_kind : Int32) (r_start : Int32) (r_next : Int32) (r_number : Int32) (r_dice : Int32) (r_bt : Int32) (r_gt : Int32) (d_pips : Nat → Int32) (d_many : Nat → Int32) (d_berths : Int32) (d_goal : Int32) (a_shown : Nat → Int32) (a_calm : Nat → Int32) (a_windy : Nat → Int32) (a_turns : Nat → Int32) (a_many : Int32) (a_ever : Int32) (c_at : Nat → Int32) (c_past : Nat → Int32) (c_known : Int32) (i_at : Nat → Int32) (i_past : Nat → Int32) (i_known : Int32) (j_at : Nat → Int32) (j_past : Nat → Int32) (j_known : Int32) (x_kept : Nat → Int32) (x_cb : Nat → Int32) (x_ct : Nat → Int32) (x_chalked : Int32) (x_traced : Int64) (X : tg_X) (hl0 : tg_l X = l) (C : tg_C X D 5 cX4_bet RX4 5 110 0 0) (r : Int32) (hs : fX4_bet a_calm a_windy a_turns a_many c_at x_cb x_ct x_chalked = some r) (hE : tg_Ei X D 0 0 cX4_bet .int r (tw_X D h0 x0 t0 t1 t2 r0 e0 e1 e2 rt z0 b0 b1 b2 b3 b4 c0 c1 c2 m0 i0 i1 i2 j0 j1 j2 k0 k1 k2 x_text x_typed t_pips t_many t_berths t_goal r_fault r_length r_kind r_start r_next r_number r_dice r_bt r_gt d_pips d_many d_berths d_goal a_shown a_calm a_windy a_turns a_many a_ever c_at c_past c_known i_at i_past i_known j_at j_past j_known x_kept x_cb x_ct x_chalked x_traced)) : tg_G X D 5 0 0 (tw_X D h0 x0 t0 t1 t2 r0 e0 e1 e2 rt z0 b0 b1 b2 b3 b4 c0 c1 c2 m0 i0 i1 i2 j0 j1 j2 k0 k1 k2 x_text x_typed t_pips t_many t_berths t_goal r_fault r_length r_kind r_start r_next r_number r_dice r_bt r_gt d_pips d_many d_berths d_goal a_shown a_calm a_windy a_turns a_many a_ever c_at c_past c_known i_at i_past i_known j_at j_past j_known x_kept x_cb x_ct x_chalked x_traced) [(0, .ref h0)] 0 [] := by
  unfold fX4_bet at hs
  refine tg_bipush (v := (-9)) C dX4_bet_0 (by decide) ?_
  refine tg_istore_n (lv' := [(1, .int (-9)), (0, .ref h0)]) C dX4_bet_2 rfl (by decide) rfl ?_
  refine tg_iconst (v := 0) C dX4_bet_3 (by decide) ?_
  refine tg_istore_n (lv' := [(2, .int 0), (1, .int (-9)), (0, .ref h0)]) C dX4_bet_4 rfl (by decide) rfl ?_
  refine tg_iconst (v := 0) C dX4_bet_5 (by decide) ?_
  refine tg_istore_n (lv' := [(3, .int 0), (2, .int 0), (1, .int (-9)), (0, .ref h0)]) C dX4_bet_6 rfl (by decide) rfl ?_
  refine tg_lsub [3, 2, 1, 0] rfl ?_
  obtain ⟨vv11, vv12, vv13, ee14, hs⟩ := tg_b3_e hs
  refine vX4_bet_L7 l D h0 x0 t0 t1 t2 r0 e0 e1 e2 rt z0 b0 b1 b2 b3 b4 c0 c1 c2 m0 i0 i1 i2 j0 j1 j2 k0 k1 k2 x_text x_typed t_pips t_many t_berths t_goal r_fault r_length r_kind r_start r_next r_number r_dice r_bt r_gt d_pips d_many d_berths d_goal a_shown a_calm a_windy a_turns a_many a_ever c_at c_past c_known i_at i_past i_known j_at j_past j_known x_kept x_cb x_ct x_chalked x_traced X hl0 C vv11 vv12 vv13 400 (-9) 0 0 ee14 ?_
  refine tg_iload_n C dX4_bet_42 rfl 1 rfl ?_
  obtain rfl := Option.some.inj hs
  exact tg_iret hE rfl dX4_bet_43
set_option maxHeartbeats 2000000 in
set_option maxRecDepth 20000 in
theorem kX4_bet (l : Launch) (D : tg_D) (h0 x0 t0 t1 t2 r0 e0 e1 e2 rt z0 b0 b1 b2 b3 b4 c0 c1 c2 m0 i0 i1 i2 j0 j1 j2 k0 k1 k2 : Nat) (x_text : Nat → Int32) (x_typed : Int32) (t_pips : Nat → Int32) (t_many : Nat → Int32) (t_berths : Int32) (t_goal : Int32) (r_fault : Int32) (r_length : Int32) (r_kind : Int32) (r_start : Int32) (r_next : Int32) (r_number : Int32) (r_dice : Int32) (r_bt : Int32) (r_gt : Int32) (d_pips : Nat → Int32) (d_many : Nat → Int32) (d_berths : Int32) (d_goal : Int32) (a_shown : Nat → Int32) (a_calm : Nat → Int32) (a_windy : Nat → Int32) (a_turns : Nat → Int32) (a_many : Int32) (a_ever : Int32) (c_at : Nat → Int32) (c_past : Nat → Int32) (c_known : Int32) (i_at : Nat → Int32) (i_past : Nat → Int32) (i_known : Int32) (j_at : Nat → Int32) (j_past : Nat → Int32) (j_known : Int32) (x_kept : Nat → Int32) (x_cb : Nat → Int32) (x_ct : Nat → Int32) (x_chalked : Int32) (x_traced : Int64) (r : Int32) (hs : fX4_bet a_calm a_windy a_turns a_many c_at x_cb x_ct x_chalked = some r) : Met l yX4_bet [Cond.code yX4_bet cX4_bet 5 (some .int)] (tg_rm 5 110) (tg_Pre D (tw_X D h0 x0 t0 t1 t2 r0 e0 e1 e2 rt z0 b0 b1 b2 b3 b4 c0 c1 c2 m0 i0 i1 i2 j0 j1 j2 k0 k1 k2 x_text x_typed t_pips t_many t_berths t_goal r_fault r_length r_kind r_start r_next r_number r_dice r_bt r_gt d_pips d_many d_berths d_goal a_shown a_calm a_windy a_turns a_many a_ever c_at c_past c_known i_at i_past i_known j_at j_past j_known x_kept x_cb x_ct x_chalked x_traced) [.ref h0]) (vp_Si (fun r' => r' = r)) 0 0 (fun _ => False) := tg_metI (by decide) (Nat.le_of_ble_eq_true rfl) (fun X hl0 C hE => vX4_bet l D h0 x0 t0 t1 t2 r0 e0 e1 e2 rt z0 b0 b1 b2 b3 b4 c0 c1 c2 m0 i0 i1 i2 j0 j1 j2 k0 k1 k2 x_text x_typed t_pips t_many t_berths t_goal r_fault r_length r_kind r_start r_next r_number r_dice r_bt r_gt d_pips d_many d_berths d_goal a_shown a_calm a_windy a_turns a_many a_ever c_at c_past c_known i_at i_past i_known j_at j_past j_known x_kept x_cb x_ct x_chalked x_traced X hl0 C r hs hE)
def fX4_third_L40 (t_pips : Nat → Int32) (t_many : Nat → Int32) (t_berths : Int32) (c_at : Nat → Int32) (n1 : Int32) (n2 : Int32) (n3 : Int32) : Nat → Int32 → Int32 → Option (Int32 × Int32)
  | 0, _, _ => none
  | fuel + 1, n4, n5 => if (t_many 2) ≤ n5 then (some (n4, n5)) else (tg_b1 (fX3_pip t_pips 2 n5) fun rr11 => tg_b1 (fX1_wind c_at) fun rr13 => tg_b1 (fX3_opens t_berths n1 n2 rr11 rr13) fun rr15 => tg_b1 (fX4_hasBit rr15 n3) fun rr17 => tg_b1 (if rr17 = 0 then (some n4) else (tg_b1 (fX4_bit rr11) fun rr22 => tg_nm (n4 ||| rr22) fun vv24 => some vv24)) fun (vv20 : Int32) => tg_nm (n5 + 1) fun vv25 => fX4_third_L40 t_pips t_many t_berths c_at n1 n2 n3 fuel vv20 vv25)
def fX4_third (t_pips : Nat → Int32) (t_many : Nat → Int32) (t_berths : Int32) (c_at : Nat → Int32) (p1 : Int32) (p2 : Int32) (p3 : Int32) : Option (Int32) := tg_b1 (fX3_hasPip t_pips t_many 0 p1) fun rr1 => if rr1 = 0 then (some (-1)) else (tg_b1 (fX3_hasPip t_pips t_many 1 p2) fun rr4 => if rr4 = 0 then (some (-1)) else (tg_b1 (fX4_isBerth t_berths p3) fun rr7 => if ¬ rr7 = 0 then (tg_b2 (fX4_third_L40 t_pips t_many t_berths c_at p1 p2 p3 400 0 0) fun vv27 vv28 => some vv27) else (some (-1))))
set_option maxHeartbeats 2000000 in
set_option maxRecDepth 20000 in
theorem vX4_third_L40 (l : Launch) (D : tg_D) (h0 x0 t0 t1 t2 r0 e0 e1 e2 rt z0 b0 b1 b2 b3 b4 c0 c1 c2 m0 i0 i1 i2 j0 j1 j2 k0 k1 k2 : Nat) (x_text : Nat → Int32) (x_typed : Int32) (t_pips : Nat → Int32) (t_many : Nat → Int32) (t_berths : Int32) (t_goal : Int32) (r_fault : Int32) (r_length : Int32) (r_kind : Int32) (r_start : Int32) (r_next : Int32) (r_number : Int32) (r_dice : Int32) (r_bt : Int32) (r_gt : Int32) (d_pips : Nat → Int32) (d_many : Nat → Int32) (d_berths : Int32) (d_goal : Int32) (a_shown : Nat → Int32) (a_calm : Nat → Int32) (a_windy : Nat → Int32) (a_turns : Nat → Int32) (a_many : Int32) (a_ever : Int32) (c_at : Nat → Int32) (c_past : Nat → Int32) (c_known : Int32) (i_at : Nat → Int32) (i_past : Nat → Int32) (i_known : Int32) (j_at : Nat → Int32) (j_past : Nat → Int32) (j_known : Int32) (x_kept : Nat → Int32) (x_cb : Nat → Int32) (x_ct : Nat → Int32) (x_chalked : Int32) (x_traced : Int64) (n1 : Int32) (n2 : Int32) (n3 : Int32) (X : tg_X) (hl0 : tg_l X = l) (C : tg_C X D 7 cX4_third RX4 3 66 0 0) (o_n4 : Int32) (o_n5 : Int32) : ∀ (fuel : Nat) (n4 : Int32) (n5 : Int32), fX4_third_L40 t_pips t_many t_berths c_at n1 n2 n3 fuel n4 n5 = some (o_n4, o_n5) → tg_G X D 7 0 0 (tw_X D h0 x0 t0 t1 t2 r0 e0 e1 e2 rt z0 b0 b1 b2 b3 b4 c0 c1 c2 m0 i0 i1 i2 j0 j1 j2 k0 k1 k2 x_text x_typed t_pips t_many t_berths t_goal r_fault r_length r_kind r_start r_next r_number r_dice r_bt r_gt d_pips d_many d_berths d_goal a_shown a_calm a_windy a_turns a_many a_ever c_at c_past c_known i_at i_past i_known j_at j_past j_known x_kept x_cb x_ct x_chalked x_traced) [(0, .ref h0), (1, .int n1), (2, .int n2), (3, .int n3), (4, .int o_n4), (5, .int o_n5)] 107 [] → tg_G X D 7 0 0 (tw_X D h0 x0 t0 t1 t2 r0 e0 e1 e2 rt z0 b0 b1 b2 b3 b4 c0 c1 c2 m0 i0 i1 i2 j0 j1 j2 k0 k1 k2 x_text x_typed t_pips t_many t_berths t_goal r_fault r_length r_kind r_start r_next r_number r_dice r_bt r_gt d_pips d_many d_berths d_goal a_shown a_calm a_windy a_turns a_many a_ever c_at c_past c_known i_at i_past i_known j_at j_past j_known x_kept x_cb x_ct x_chalked x_traced) [(0, .ref h0), (1, .int n1), (2, .int n2), (3, .int n3), (4, .int n4), (5, .int n5)] 40 [] := by
  intro fuel
  induction fuel with
  | zero =>
    intro n4 n5 hs _
    rw [fX4_third_L40] at hs
    cases hs
  | succ fuel ih =>
    intro n4 n5 hs J
    rw [fX4_third_L40] at hs
    refine tg_iload C dX4_third_40 5 rfl ?_
    refine tg_aload_n C dX4_third_42 rfl 0 rfl ?_
    refine tg_get (v := .ref t0) C cfX4 0 rfl 2 (by decide) wm_241 rfl dX4_third_43 ?_
    refine tg_get (v := .ref t2) C cfX3 2 rfl 1 (by decide) wm_94 rfl dX4_third_46 ?_
    refine tg_iconst (v := 2) C dX4_third_49 (by decide) ?_
    refine tg_iald C 4 0 rfl rfl (tg_vin (by decide)) dX4_third_50 ?_
    refine tg_topi (y := t_many 2) rfl ?_
    refine tg_icmp_ge (tgt := 107) C dX4_third_51 (by decide) (fun cc10 => ?_) (fun cc10 => ?_)
    · have hs := tg_t cc10 hs
      obtain ⟨rfl, rfl⟩ := tg_i2 hs
      exact J
    · have hs := tg_f cc10 hs
      refine tg_aload_n C dX4_third_54 rfl 0 rfl ?_
      refine tg_get (v := .ref t0) C cfX4 0 rfl 2 (by decide) wm_241 rfl dX4_third_55 ?_
      refine tg_iconst (v := 2) C dX4_third_58 (by decide) ?_
      refine tg_iload C dX4_third_59 5 rfl ?_
      obtain ⟨rr11, ee12, hs⟩ := tg_b1_e hs
      refine tg_pV (As := [.int 2, .int n5]) (rest := []) C hl0 (kX3_pip l D t0 t1 t2 t_pips t_many t_berths t_goal 2 n5 rr11 ee12) wm_355 meX3_pip (by decide) [2, 3, 4] rfl (by decide) rfl rfl rfl rfl (Nat.le_of_ble_eq_true rfl) dX4_third_61 ?_
      refine tg_istore (lv' := [(6, .int rr11), (0, .ref h0), (1, .int n1), (2, .int n2), (3, .int n3), (4, .int n4), (5, .int n5)]) C dX4_third_64 (by decide) rfl ?_
      refine tg_aload_n C dX4_third_66 rfl 1 rfl ?_
      refine tg_get (v := .ref t0) C cfX4 0 rfl 2 (by decide) wm_241 rfl dX4_third_67 ?_
      refine tg_iload_n C dX4_third_70 rfl 2 rfl ?_
      refine tg_iload_n C dX4_third_71 rfl 3 rfl ?_
      refine tg_iload C dX4_third_72 0 rfl ?_
      refine tg_aload_n C dX4_third_74 rfl 1 rfl ?_
      refine tg_get (v := .ref c0) C cfX4 0 rfl 5 (by decide) wm_244 rfl dX4_third_75 ?_
      obtain ⟨rr13, ee14, hs⟩ := tg_b1_e hs
      refine tg_pV (As := []) (rest := [.int rr11, .int n2, .int n1, .ref t0]) C hl0 (kX1_wind l D c0 c1 c2 t0 t1 t2 c_at c_past c_known t_pips t_many t_berths t_goal rr13 ee14) wm_513 meX1_wind (by decide) [15, 16, 17, 2, 3, 4] rfl (by decide) rfl rfl rfl rfl (Nat.le_of_ble_eq_true rfl) dX4_third_78 ?_
      obtain ⟨rr15, ee16, hs⟩ := tg_b1_e hs
      refine tg_pV (As := [.int n1, .int n2, .int rr11, .int rr13]) (rest := []) C hl0 (kX3_opens l D t0 t1 t2 t_pips t_many t_berths t_goal n1 n2 rr11 rr13 rr15 ee16) wm_598 meX3_opens (by decide) [2, 3, 4] rfl (by decide) rfl rfl rfl rfl (Nat.le_of_ble_eq_true rfl) dX4_third_81 ?_
      refine tg_iload_n C dX4_third_84 rfl 4 rfl ?_
      obtain ⟨rr17, ee18, hs⟩ := tg_b1_e hs
      refine tg_pS (As := [.int rr15, .int n3]) (rest := []) C hl0 (kX4_hasBit l D rr15 n3 rr17 ee18) wm_459 meX4_hasBit (by decide) rfl rfl (Nat.le_of_ble_eq_true rfl) dX4_third_85 ?_
      obtain ⟨vv20, ee26, hs⟩ := tg_b1_e hs
      have JJ21 : tg_G X D 7 0 0 (tw_X D h0 x0 t0 t1 t2 r0 e0 e1 e2 rt z0 b0 b1 b2 b3 b4 c0 c1 c2 m0 i0 i1 i2 j0 j1 j2 k0 k1 k2 x_text x_typed t_pips t_many t_berths t_goal r_fault r_length r_kind r_start r_next r_number r_dice r_bt r_gt d_pips d_many d_berths d_goal a_shown a_calm a_windy a_turns a_many a_ever c_at c_past c_known i_at i_past i_known j_at j_past j_known x_kept x_cb x_ct x_chalked x_traced) [(0, .ref h0), (1, .int n1), (2, .int n2), (3, .int n3), (4, .int vv20), (5, .int n5), (6, .int rr11)] 101 [] := by
        obtain ⟨vv25, evv25, hs⟩ := tg_nm_e hs
        refine tg_iinc (v := vv25) (lv' := [(5, .int vv25), (0, .ref h0), (1, .int n1), (2, .int n2), (3, .int n3), (4, .int vv20), (6, .int rr11)]) C dX4_third_101 5 rfl (by rw [evv25]; rfl) (by decide) rfl ?_
        refine tg_goto (tgt := 40) C dX4_third_104 (by decide) ?_
        refine tg_lsub [1, 2, 3, 4, 5, 0] rfl ?_
        exact ih vv20 vv25 hs J
      have hs := ee26
      clear ee26
      refine tg_if_eq (tgt := 101) C dX4_third_88 (by decide) (fun cc19 => ?_) (fun cc19 => ?_)
      · have hs := tg_t cc19 hs
        obtain rfl := Option.some.inj hs
        refine tg_lsub [1, 2, 3, 4, 5, 6, 0] rfl ?_
        exact JJ21
      · have hs := tg_f cc19 hs
        refine tg_iload C dX4_third_91 5 rfl ?_
        refine tg_iload C dX4_third_93 0 rfl ?_
        obtain ⟨rr22, ee23, hs⟩ := tg_b1_e hs
        refine tg_pS (As := [.int rr11]) (rest := [.int n4]) C hl0 (kX4_bit l D rr11 rr22 ee23) wm_375 meX4_bit (by decide) rfl rfl (Nat.le_of_ble_eq_true rfl) dX4_third_95 ?_
        refine tg_ior C dX4_third_98 ?_
        obtain ⟨vv24, evv24, hs⟩ := tg_nm_e hs
        refine tg_topi evv24 ?_
        refine tg_istore (lv' := [(4, .int vv24), (6, .int rr11), (0, .ref h0), (1, .int n1), (2, .int n2), (3, .int n3), (5, .int n5)]) C dX4_third_99 (by decide) rfl ?_
        obtain rfl := Option.some.inj hs
        refine tg_lsub [2, 3, 4, 5, 0, 6, 1] rfl ?_
        exact JJ21
set_option maxHeartbeats 2000000 in
set_option maxRecDepth 20000 in
theorem vX4_third (l : Launch) (D : tg_D) (h0 x0 t0 t1 t2 r0 e0 e1 e2 rt z0 b0 b1 b2 b3 b4 c0 c1 c2 m0 i0 i1 i2 j0 j1 j2 k0 k1 k2 : Nat) (x_text : Nat → Int32) (x_typed : Int32) (t_pips : Nat → Int32) (t_many : Nat → Int32) (t_berths : Int32) (t_goal : Int32) (r_fault : Int32) (r_length : Int32) (r_kind : Int32) (r_start : Int32) (r_next : Int32) (r_number : Int32) (r_dice : Int32) (r_bt : Int32) (r_gt : Int32) (d_pips : Nat → Int32) (d_many : Nat → Int32) (d_berths : Int32) (d_goal : Int32) (a_shown : Nat → Int32) (a_calm : Nat → Int32) (a_windy : Nat → Int32) (a_turns : Nat → Int32) (a_many : Int32) (a_ever : Int32) (c_at : Nat → Int32) (c_past : Nat → Int32) (c_known : Int32) (i_at : Nat → Int32) (i_past : Nat → Int32) (i_known : Int32) (j_at : Nat → Int32) (j_past : Nat → Int32) (j_known : Int32) (x_kept : Nat → Int32) (x_cb : Nat → Int32) (x_ct : Nat → Int32) (x_chalked : Int32) (x_traced : Int64) (p1 : Int32) (p2 : Int32) (p3 : Int32) (X : tg_X) (hl0 : tg_l X = l) (C : tg_C X D 7 cX4_third RX4 3 66 0 0) (r : Int32) (hs : fX4_third t_pips t_many t_berths c_at p1 p2 p3 = some r) (hE : tg_Ei X D 0 0 cX4_third .int r (tw_X D h0 x0 t0 t1 t2 r0 e0 e1 e2 rt z0 b0 b1 b2 b3 b4 c0 c1 c2 m0 i0 i1 i2 j0 j1 j2 k0 k1 k2 x_text x_typed t_pips t_many t_berths t_goal r_fault r_length r_kind r_start r_next r_number r_dice r_bt r_gt d_pips d_many d_berths d_goal a_shown a_calm a_windy a_turns a_many a_ever c_at c_past c_known i_at i_past i_known j_at j_past j_known x_kept x_cb x_ct x_chalked x_traced)) : tg_G X D 7 0 0 (tw_X D h0 x0 t0 t1 t2 r0 e0 e1 e2 rt z0 b0 b1 b2 b3 b4 c0 c1 c2 m0 i0 i1 i2 j0 j1 j2 k0 k1 k2 x_text x_typed t_pips t_many t_berths t_goal r_fault r_length r_kind r_start r_next r_number r_dice r_bt r_gt d_pips d_many d_berths d_goal a_shown a_calm a_windy a_turns a_many a_ever c_at c_past c_known i_at i_past i_known j_at j_past j_known x_kept x_cb x_ct x_chalked x_traced) [(0, .ref h0), (1, .int p1), (2, .int p2), (3, .int p3)] 0 [] := by
  unfold fX4_third at hs
  refine tg_aload_n C dX4_third_0 rfl 0 rfl ?_
  refine tg_get (v := .ref t0) C cfX4 0 rfl 2 (by decide) wm_241 rfl dX4_third_1 ?_
  refine tg_iconst (v := 0) C dX4_third_4 (by decide) ?_
  refine tg_iload_n C dX4_third_5 rfl 1 rfl ?_
  obtain ⟨rr1, ee2, hs⟩ := tg_b1_e hs
  refine tg_pV (As := [.int 0, .int p1]) (rest := []) C hl0 (kX3_hasPip l D t0 t1 t2 t_pips t_many t_berths t_goal 0 p1 rr1 ee2) wm_411 meX3_hasPip (by decide) [2, 3, 4] rfl (by decide) rfl rfl rfl rfl (Nat.le_of_ble_eq_true rfl) dX4_third_6 ?_
  refine tg_if_eq (tgt := 32) C dX4_third_9 (by decide) (fun cc3 => ?_) (fun cc3 => ?_)
  · have hs := tg_t cc3 hs
    refine tg_iconst (v := (-1)) C dX4_third_32 (by decide) ?_
    obtain rfl := Option.some.inj hs
    exact tg_iret hE rfl dX4_third_33
  · have hs := tg_f cc3 hs
    refine tg_aload_n C dX4_third_12 rfl 0 rfl ?_
    refine tg_get (v := .ref t0) C cfX4 0 rfl 2 (by decide) wm_241 rfl dX4_third_13 ?_
    refine tg_iconst (v := 1) C dX4_third_16 (by decide) ?_
    refine tg_iload_n C dX4_third_17 rfl 2 rfl ?_
    obtain ⟨rr4, ee5, hs⟩ := tg_b1_e hs
    refine tg_pV (As := [.int 1, .int p2]) (rest := []) C hl0 (kX3_hasPip l D t0 t1 t2 t_pips t_many t_berths t_goal 1 p2 rr4 ee5) wm_411 meX3_hasPip (by decide) [2, 3, 4] rfl (by decide) rfl rfl rfl rfl (Nat.le_of_ble_eq_true rfl) dX4_third_18 ?_
    refine tg_if_eq (tgt := 32) C dX4_third_21 (by decide) (fun cc6 => ?_) (fun cc6 => ?_)
    · have hs := tg_t cc6 hs
      refine tg_iconst (v := (-1)) C dX4_third_32 (by decide) ?_
      obtain rfl := Option.some.inj hs
      exact tg_iret hE rfl dX4_third_33
    · have hs := tg_f cc6 hs
      refine tg_aload_n C dX4_third_24 rfl 0 rfl ?_
      refine tg_iload_n C dX4_third_25 rfl 3 rfl ?_
      obtain ⟨rr7, ee8, hs⟩ := tg_b1_e hs
      refine tg_pVs (As := [.int p3]) (rest := []) C hl0 (kX4_isBerth l D h0 x0 t0 t1 t2 r0 e0 e1 e2 rt z0 b0 b1 b2 b3 b4 c0 c1 c2 m0 i0 i1 i2 j0 j1 j2 k0 k1 k2 x_text x_typed t_pips t_many t_berths t_goal r_fault r_length r_kind r_start r_next r_number r_dice r_bt r_gt d_pips d_many d_berths d_goal a_shown a_calm a_windy a_turns a_many a_ever c_at c_past c_known i_at i_past i_known j_at j_past j_known x_kept x_cb x_ct x_chalked x_traced p3 rr7 ee8) wm_360 meX4_isBerth (by decide) rfl rfl rfl rfl (Nat.le_of_ble_eq_true rfl) dX4_third_26 ?_
      refine tg_if_ne (tgt := 34) C dX4_third_29 (by decide) (fun cc9 => ?_) (fun cc9 => ?_)
      · have hs := tg_t cc9 hs
        refine tg_iconst (v := 0) C dX4_third_34 (by decide) ?_
        refine tg_istore (lv' := [(4, .int 0), (0, .ref h0), (1, .int p1), (2, .int p2), (3, .int p3)]) C dX4_third_35 (by decide) rfl ?_
        refine tg_iconst (v := 0) C dX4_third_37 (by decide) ?_
        refine tg_istore (lv' := [(5, .int 0), (4, .int 0), (0, .ref h0), (1, .int p1), (2, .int p2), (3, .int p3)]) C dX4_third_38 (by decide) rfl ?_
        refine tg_lsub [2, 3, 4, 5, 1, 0] rfl ?_
        obtain ⟨vv27, vv28, ee29, hs⟩ := tg_b2_e hs
        refine vX4_third_L40 l D h0 x0 t0 t1 t2 r0 e0 e1 e2 rt z0 b0 b1 b2 b3 b4 c0 c1 c2 m0 i0 i1 i2 j0 j1 j2 k0 k1 k2 x_text x_typed t_pips t_many t_berths t_goal r_fault r_length r_kind r_start r_next r_number r_dice r_bt r_gt d_pips d_many d_berths d_goal a_shown a_calm a_windy a_turns a_many a_ever c_at c_past c_known i_at i_past i_known j_at j_past j_known x_kept x_cb x_ct x_chalked x_traced p1 p2 p3 X hl0 C vv27 vv28 400 0 0 ee29 ?_
        refine tg_iload C dX4_third_107 4 rfl ?_
        obtain rfl := Option.some.inj hs
        exact tg_iret hE rfl dX4_third_109
      · have hs := tg_nf cc9 hs
        refine tg_iconst (v := (-1)) C dX4_third_32 (by decide) ?_
        obtain rfl := Option.some.inj hs
        exact tg_iret hE rfl dX4_third_33
set_option maxHeartbeats 2000000 in
set_option maxRecDepth 20000 in
theorem kX4_third (l : Launch) (D : tg_D) (h0 x0 t0 t1 t2 r0 e0 e1 e2 rt z0 b0 b1 b2 b3 b4 c0 c1 c2 m0 i0 i1 i2 j0 j1 j2 k0 k1 k2 : Nat) (x_text : Nat → Int32) (x_typed : Int32) (t_pips : Nat → Int32) (t_many : Nat → Int32) (t_berths : Int32) (t_goal : Int32) (r_fault : Int32) (r_length : Int32) (r_kind : Int32) (r_start : Int32) (r_next : Int32) (r_number : Int32) (r_dice : Int32) (r_bt : Int32) (r_gt : Int32) (d_pips : Nat → Int32) (d_many : Nat → Int32) (d_berths : Int32) (d_goal : Int32) (a_shown : Nat → Int32) (a_calm : Nat → Int32) (a_windy : Nat → Int32) (a_turns : Nat → Int32) (a_many : Int32) (a_ever : Int32) (c_at : Nat → Int32) (c_past : Nat → Int32) (c_known : Int32) (i_at : Nat → Int32) (i_past : Nat → Int32) (i_known : Int32) (j_at : Nat → Int32) (j_past : Nat → Int32) (j_known : Int32) (x_kept : Nat → Int32) (x_cb : Nat → Int32) (x_ct : Nat → Int32) (x_chalked : Int32) (x_traced : Int64) (p1 : Int32) (p2 : Int32) (p3 : Int32) (r : Int32) (hs : fX4_third t_pips t_many t_berths c_at p1 p2 p3 = some r) : Met l yX4_third [Cond.code yX4_third cX4_third 7 (some .int)] (tg_rm 3 66) (tg_Pre D (tw_X D h0 x0 t0 t1 t2 r0 e0 e1 e2 rt z0 b0 b1 b2 b3 b4 c0 c1 c2 m0 i0 i1 i2 j0 j1 j2 k0 k1 k2 x_text x_typed t_pips t_many t_berths t_goal r_fault r_length r_kind r_start r_next r_number r_dice r_bt r_gt d_pips d_many d_berths d_goal a_shown a_calm a_windy a_turns a_many a_ever c_at c_past c_known i_at i_past i_known j_at j_past j_known x_kept x_cb x_ct x_chalked x_traced) [.ref h0, .int p1, .int p2, .int p3]) (vp_Si (fun r' => r' = r)) 0 0 (fun _ => False) := tg_metI (by decide) (Nat.le_of_ble_eq_true rfl) (fun X hl0 C hE => vX4_third l D h0 x0 t0 t1 t2 r0 e0 e1 e2 rt z0 b0 b1 b2 b3 b4 c0 c1 c2 m0 i0 i1 i2 j0 j1 j2 k0 k1 k2 x_text x_typed t_pips t_many t_berths t_goal r_fault r_length r_kind r_start r_next r_number r_dice r_bt r_gt d_pips d_many d_berths d_goal a_shown a_calm a_windy a_turns a_many a_ever c_at c_past c_known i_at i_past i_known j_at j_past j_known x_kept x_cb x_ct x_chalked x_traced p1 p2 p3 X hl0 C r hs hE)
def fX4_threw (t_berths : Int32) (a_shown : Nat → Int32) (a_calm : Nat → Int32) (a_windy : Nat → Int32) (a_many : Int32) (c_at : Nat → Int32) (p1 : Int32) (p2 : Int32) : Option (Int32) := tg_b1 (fX4_isBerth t_berths p1) fun rr1 => if rr1 = 0 then (some (-1)) else (tg_b1 (fX4_isPart p2) fun rr4 => if ¬ rr4 = 0 then (if ¬ p2 = 0 then (tg_b1 (fX1_wind c_at) fun rr8 => tg_b1 (fX0_firstStill a_shown a_calm a_windy a_many p1 rr8) fun rr10 => some rr10) else (tg_b1 (fX1_wind c_at) fun rr12 => tg_b1 (fX0_manyStill a_calm a_windy a_many p1 rr12) fun rr14 => some rr14)) else (some (-1)))
set_option maxHeartbeats 2000000 in
set_option maxRecDepth 20000 in
theorem vX4_threw (l : Launch) (D : tg_D) (h0 x0 t0 t1 t2 r0 e0 e1 e2 rt z0 b0 b1 b2 b3 b4 c0 c1 c2 m0 i0 i1 i2 j0 j1 j2 k0 k1 k2 : Nat) (x_text : Nat → Int32) (x_typed : Int32) (t_pips : Nat → Int32) (t_many : Nat → Int32) (t_berths : Int32) (t_goal : Int32) (r_fault : Int32) (r_length : Int32) (r_kind : Int32) (r_start : Int32) (r_next : Int32) (r_number : Int32) (r_dice : Int32) (r_bt : Int32) (r_gt : Int32) (d_pips : Nat → Int32) (d_many : Nat → Int32) (d_berths : Int32) (d_goal : Int32) (a_shown : Nat → Int32) (a_calm : Nat → Int32) (a_windy : Nat → Int32) (a_turns : Nat → Int32) (a_many : Int32) (a_ever : Int32) (c_at : Nat → Int32) (c_past : Nat → Int32) (c_known : Int32) (i_at : Nat → Int32) (i_past : Nat → Int32) (i_known : Int32) (j_at : Nat → Int32) (j_past : Nat → Int32) (j_known : Int32) (x_kept : Nat → Int32) (x_cb : Nat → Int32) (x_ct : Nat → Int32) (x_chalked : Int32) (x_traced : Int64) (p1 : Int32) (p2 : Int32) (X : tg_X) (hl0 : tg_l X = l) (C : tg_C X D 3 cX4_threw RX4 3 65 0 0) (r : Int32) (hs : fX4_threw t_berths a_shown a_calm a_windy a_many c_at p1 p2 = some r) (hE : tg_Ei X D 0 0 cX4_threw .int r (tw_X D h0 x0 t0 t1 t2 r0 e0 e1 e2 rt z0 b0 b1 b2 b3 b4 c0 c1 c2 m0 i0 i1 i2 j0 j1 j2 k0 k1 k2 x_text x_typed t_pips t_many t_berths t_goal r_fault r_length r_kind r_start r_next r_number r_dice r_bt r_gt d_pips d_many d_berths d_goal a_shown a_calm a_windy a_turns a_many a_ever c_at c_past c_known i_at i_past i_known j_at j_past j_known x_kept x_cb x_ct x_chalked x_traced)) : tg_G X D 3 0 0 (tw_X D h0 x0 t0 t1 t2 r0 e0 e1 e2 rt z0 b0 b1 b2 b3 b4 c0 c1 c2 m0 i0 i1 i2 j0 j1 j2 k0 k1 k2 x_text x_typed t_pips t_many t_berths t_goal r_fault r_length r_kind r_start r_next r_number r_dice r_bt r_gt d_pips d_many d_berths d_goal a_shown a_calm a_windy a_turns a_many a_ever c_at c_past c_known i_at i_past i_known j_at j_past j_known x_kept x_cb x_ct x_chalked x_traced) [(0, .ref h0), (1, .int p1), (2, .int p2)] 0 [] := by
  unfold fX4_threw at hs
  refine tg_aload_n C dX4_threw_0 rfl 0 rfl ?_
  refine tg_iload_n C dX4_threw_1 rfl 1 rfl ?_
  obtain ⟨rr1, ee2, hs⟩ := tg_b1_e hs
  refine tg_pVs (As := [.int p1]) (rest := []) C hl0 (kX4_isBerth l D h0 x0 t0 t1 t2 r0 e0 e1 e2 rt z0 b0 b1 b2 b3 b4 c0 c1 c2 m0 i0 i1 i2 j0 j1 j2 k0 k1 k2 x_text x_typed t_pips t_many t_berths t_goal r_fault r_length r_kind r_start r_next r_number r_dice r_bt r_gt d_pips d_many d_berths d_goal a_shown a_calm a_windy a_turns a_many a_ever c_at c_past c_known i_at i_past i_known j_at j_past j_known x_kept x_cb x_ct x_chalked x_traced p1 rr1 ee2) wm_360 meX4_isBerth (by decide) rfl rfl rfl rfl (Nat.le_of_ble_eq_true rfl) dX4_threw_2 ?_
  refine tg_if_eq (tgt := 15) C dX4_threw_5 (by decide) (fun cc3 => ?_) (fun cc3 => ?_)
  · have hs := tg_t cc3 hs
    refine tg_iconst (v := (-1)) C dX4_threw_15 (by decide) ?_
    obtain rfl := Option.some.inj hs
    exact tg_iret hE rfl dX4_threw_16
  · have hs := tg_f cc3 hs
    refine tg_iload_n C dX4_threw_8 rfl 2 rfl ?_
    obtain ⟨rr4, ee5, hs⟩ := tg_b1_e hs
    refine tg_pS (As := [.int p2]) (rest := []) C hl0 (kX4_isPart l D p2 rr4 ee5) wm_520 meX4_isPart (by decide) rfl rfl (Nat.le_of_ble_eq_true rfl) dX4_threw_9 ?_
    refine tg_if_ne (tgt := 17) C dX4_threw_12 (by decide) (fun cc6 => ?_) (fun cc6 => ?_)
    · have hs := tg_t cc6 hs
      refine tg_iload_n C dX4_threw_17 rfl 2 rfl ?_
      refine tg_if_ne (tgt := 39) C dX4_threw_18 (by decide) (fun cc7 => ?_) (fun cc7 => ?_)
      · have hs := tg_t cc7 hs
        refine tg_aload_n C dX4_threw_39 rfl 0 rfl ?_
        refine tg_get (v := .ref b0) C cfX4 0 rfl 4 (by decide) wm_243 rfl dX4_threw_40 ?_
        refine tg_iload_n C dX4_threw_43 rfl 1 rfl ?_
        refine tg_aload_n C dX4_threw_44 rfl 0 rfl ?_
        refine tg_get (v := .ref c0) C cfX4 0 rfl 5 (by decide) wm_244 rfl dX4_threw_45 ?_
        obtain ⟨rr8, ee9, hs⟩ := tg_b1_e hs
        refine tg_pV (As := []) (rest := [.int p1, .ref b0]) C hl0 (kX1_wind l D c0 c1 c2 t0 t1 t2 c_at c_past c_known t_pips t_many t_berths t_goal rr8 ee9) wm_513 meX1_wind (by decide) [15, 16, 17, 2, 3, 4] rfl (by decide) rfl rfl rfl rfl (Nat.le_of_ble_eq_true rfl) dX4_threw_48 ?_
        obtain ⟨rr10, ee11, hs⟩ := tg_b1_e hs
        refine tg_pV (As := [.int p1, .int rr8]) (rest := []) C hl0 (kX0_firstStill l D b0 b1 b2 b3 b4 a_shown a_calm a_windy a_turns a_many a_ever p1 rr8 rr10 ee11) wm_608 meX0_firstStill (by decide) [10, 11, 12, 13, 14] rfl (by decide) rfl rfl rfl rfl (Nat.le_of_ble_eq_true rfl) dX4_threw_51 ?_
        obtain rfl := Option.some.inj hs
        exact tg_iret hE rfl dX4_threw_54
      · have hs := tg_nf cc7 hs
        refine tg_aload_n C dX4_threw_21 rfl 0 rfl ?_
        refine tg_get (v := .ref b0) C cfX4 0 rfl 4 (by decide) wm_243 rfl dX4_threw_22 ?_
        refine tg_iload_n C dX4_threw_25 rfl 1 rfl ?_
        refine tg_aload_n C dX4_threw_26 rfl 0 rfl ?_
        refine tg_get (v := .ref c0) C cfX4 0 rfl 5 (by decide) wm_244 rfl dX4_threw_27 ?_
        obtain ⟨rr12, ee13, hs⟩ := tg_b1_e hs
        refine tg_pV (As := []) (rest := [.int p1, .ref b0]) C hl0 (kX1_wind l D c0 c1 c2 t0 t1 t2 c_at c_past c_known t_pips t_many t_berths t_goal rr12 ee13) wm_513 meX1_wind (by decide) [15, 16, 17, 2, 3, 4] rfl (by decide) rfl rfl rfl rfl (Nat.le_of_ble_eq_true rfl) dX4_threw_30 ?_
        obtain ⟨rr14, ee15, hs⟩ := tg_b1_e hs
        refine tg_pV (As := [.int p1, .int rr12]) (rest := []) C hl0 (kX0_manyStill l D b0 b1 b2 b3 b4 a_shown a_calm a_windy a_turns a_many a_ever p1 rr12 rr14 ee15) wm_603 meX0_manyStill (by decide) [10, 11, 12, 13, 14] rfl (by decide) rfl rfl rfl rfl (Nat.le_of_ble_eq_true rfl) dX4_threw_33 ?_
        refine tg_goto (tgt := 54) C dX4_threw_36 (by decide) ?_
        obtain rfl := Option.some.inj hs
        exact tg_iret hE rfl dX4_threw_54
    · have hs := tg_nf cc6 hs
      refine tg_iconst (v := (-1)) C dX4_threw_15 (by decide) ?_
      obtain rfl := Option.some.inj hs
      exact tg_iret hE rfl dX4_threw_16
set_option maxHeartbeats 2000000 in
set_option maxRecDepth 20000 in
theorem kX4_threw (l : Launch) (D : tg_D) (h0 x0 t0 t1 t2 r0 e0 e1 e2 rt z0 b0 b1 b2 b3 b4 c0 c1 c2 m0 i0 i1 i2 j0 j1 j2 k0 k1 k2 : Nat) (x_text : Nat → Int32) (x_typed : Int32) (t_pips : Nat → Int32) (t_many : Nat → Int32) (t_berths : Int32) (t_goal : Int32) (r_fault : Int32) (r_length : Int32) (r_kind : Int32) (r_start : Int32) (r_next : Int32) (r_number : Int32) (r_dice : Int32) (r_bt : Int32) (r_gt : Int32) (d_pips : Nat → Int32) (d_many : Nat → Int32) (d_berths : Int32) (d_goal : Int32) (a_shown : Nat → Int32) (a_calm : Nat → Int32) (a_windy : Nat → Int32) (a_turns : Nat → Int32) (a_many : Int32) (a_ever : Int32) (c_at : Nat → Int32) (c_past : Nat → Int32) (c_known : Int32) (i_at : Nat → Int32) (i_past : Nat → Int32) (i_known : Int32) (j_at : Nat → Int32) (j_past : Nat → Int32) (j_known : Int32) (x_kept : Nat → Int32) (x_cb : Nat → Int32) (x_ct : Nat → Int32) (x_chalked : Int32) (x_traced : Int64) (p1 : Int32) (p2 : Int32) (r : Int32) (hs : fX4_threw t_berths a_shown a_calm a_windy a_many c_at p1 p2 = some r) : Met l yX4_threw [Cond.code yX4_threw cX4_threw 3 (some .int)] (tg_rm 3 65) (tg_Pre D (tw_X D h0 x0 t0 t1 t2 r0 e0 e1 e2 rt z0 b0 b1 b2 b3 b4 c0 c1 c2 m0 i0 i1 i2 j0 j1 j2 k0 k1 k2 x_text x_typed t_pips t_many t_berths t_goal r_fault r_length r_kind r_start r_next r_number r_dice r_bt r_gt d_pips d_many d_berths d_goal a_shown a_calm a_windy a_turns a_many a_ever c_at c_past c_known i_at i_past i_known j_at j_past j_known x_kept x_cb x_ct x_chalked x_traced) [.ref h0, .int p1, .int p2]) (vp_Si (fun r' => r' = r)) 0 0 (fun _ => False) := tg_metI (by decide) (Nat.le_of_ble_eq_true rfl) (fun X hl0 C hE => vX4_threw l D h0 x0 t0 t1 t2 r0 e0 e1 e2 rt z0 b0 b1 b2 b3 b4 c0 c1 c2 m0 i0 i1 i2 j0 j1 j2 k0 k1 k2 x_text x_typed t_pips t_many t_berths t_goal r_fault r_length r_kind r_start r_next r_number r_dice r_bt r_gt d_pips d_many d_berths d_goal a_shown a_calm a_windy a_turns a_many a_ever c_at c_past c_known i_at i_past i_known j_at j_past j_known x_kept x_cb x_ct x_chalked x_traced p1 p2 X hl0 C r hs hE)
def fX4_beats (t_pips : Nat → Int32) (t_many : Nat → Int32) (p1 : Int32) (p2 : Int32) (p3 : Int32) : Option (Int32) := tg_b1 (fX4_isDie p1) fun rr1 => if rr1 = 0 then (some (-1)) else (tg_b1 (fX4_isDie p2) fun rr4 => if rr4 = 0 then (some (-1)) else (if p1 = p2 then (some (-1)) else (tg_b1 (fX4_isPart p3) fun rr8 => if ¬ rr8 = 0 then (tg_b1 (fX3_winsOf t_pips t_many p1 p2) fun rr11 => tg_b1 (fX3_pairsOf t_many p1 p2) fun rr13 => tg_b1 (fX4_partOf rr11 rr13 p3) fun rr15 => some rr15) else (some (-1)))))
set_option maxHeartbeats 2000000 in
set_option maxRecDepth 20000 in
theorem vX4_beats (l : Launch) (D : tg_D) (h0 x0 t0 t1 t2 r0 e0 e1 e2 rt z0 b0 b1 b2 b3 b4 c0 c1 c2 m0 i0 i1 i2 j0 j1 j2 k0 k1 k2 : Nat) (x_text : Nat → Int32) (x_typed : Int32) (t_pips : Nat → Int32) (t_many : Nat → Int32) (t_berths : Int32) (t_goal : Int32) (r_fault : Int32) (r_length : Int32) (r_kind : Int32) (r_start : Int32) (r_next : Int32) (r_number : Int32) (r_dice : Int32) (r_bt : Int32) (r_gt : Int32) (d_pips : Nat → Int32) (d_many : Nat → Int32) (d_berths : Int32) (d_goal : Int32) (a_shown : Nat → Int32) (a_calm : Nat → Int32) (a_windy : Nat → Int32) (a_turns : Nat → Int32) (a_many : Int32) (a_ever : Int32) (c_at : Nat → Int32) (c_past : Nat → Int32) (c_known : Int32) (i_at : Nat → Int32) (i_past : Nat → Int32) (i_known : Int32) (j_at : Nat → Int32) (j_past : Nat → Int32) (j_known : Int32) (x_kept : Nat → Int32) (x_cb : Nat → Int32) (x_ct : Nat → Int32) (x_chalked : Int32) (x_traced : Int64) (p1 : Int32) (p2 : Int32) (p3 : Int32) (X : tg_X) (hl0 : tg_l X = l) (C : tg_C X D 4 cX4_beats RX4 2 49 0 0) (r : Int32) (hs : fX4_beats t_pips t_many p1 p2 p3 = some r) (hE : tg_Ei X D 0 0 cX4_beats .int r (tw_X D h0 x0 t0 t1 t2 r0 e0 e1 e2 rt z0 b0 b1 b2 b3 b4 c0 c1 c2 m0 i0 i1 i2 j0 j1 j2 k0 k1 k2 x_text x_typed t_pips t_many t_berths t_goal r_fault r_length r_kind r_start r_next r_number r_dice r_bt r_gt d_pips d_many d_berths d_goal a_shown a_calm a_windy a_turns a_many a_ever c_at c_past c_known i_at i_past i_known j_at j_past j_known x_kept x_cb x_ct x_chalked x_traced)) : tg_G X D 4 0 0 (tw_X D h0 x0 t0 t1 t2 r0 e0 e1 e2 rt z0 b0 b1 b2 b3 b4 c0 c1 c2 m0 i0 i1 i2 j0 j1 j2 k0 k1 k2 x_text x_typed t_pips t_many t_berths t_goal r_fault r_length r_kind r_start r_next r_number r_dice r_bt r_gt d_pips d_many d_berths d_goal a_shown a_calm a_windy a_turns a_many a_ever c_at c_past c_known i_at i_past i_known j_at j_past j_known x_kept x_cb x_ct x_chalked x_traced) [(0, .ref h0), (1, .int p1), (2, .int p2), (3, .int p3)] 0 [] := by
  unfold fX4_beats at hs
  refine tg_iload_n C dX4_beats_0 rfl 1 rfl ?_
  obtain ⟨rr1, ee2, hs⟩ := tg_b1_e hs
  refine tg_pS (As := [.int p1]) (rest := []) C hl0 (kX4_isDie l D p1 rr1 ee2) wm_352 meX4_isDie (by decide) rfl rfl (Nat.le_of_ble_eq_true rfl) dX4_beats_1 ?_
  refine tg_if_eq (tgt := 26) C dX4_beats_4 (by decide) (fun cc3 => ?_) (fun cc3 => ?_)
  · have hs := tg_t cc3 hs
    refine tg_iconst (v := (-1)) C dX4_beats_26 (by decide) ?_
    obtain rfl := Option.some.inj hs
    exact tg_iret hE rfl dX4_beats_27
  · have hs := tg_f cc3 hs
    refine tg_iload_n C dX4_beats_7 rfl 2 rfl ?_
    obtain ⟨rr4, ee5, hs⟩ := tg_b1_e hs
    refine tg_pS (As := [.int p2]) (rest := []) C hl0 (kX4_isDie l D p2 rr4 ee5) wm_352 meX4_isDie (by decide) rfl rfl (Nat.le_of_ble_eq_true rfl) dX4_beats_8 ?_
    refine tg_if_eq (tgt := 26) C dX4_beats_11 (by decide) (fun cc6 => ?_) (fun cc6 => ?_)
    · have hs := tg_t cc6 hs
      refine tg_iconst (v := (-1)) C dX4_beats_26 (by decide) ?_
      obtain rfl := Option.some.inj hs
      exact tg_iret hE rfl dX4_beats_27
    · have hs := tg_f cc6 hs
      refine tg_iload_n C dX4_beats_14 rfl 1 rfl ?_
      refine tg_iload_n C dX4_beats_15 rfl 2 rfl ?_
      refine tg_icmp_eq (tgt := 26) C dX4_beats_16 (by decide) (fun cc7 => ?_) (fun cc7 => ?_)
      · have hs := tg_t cc7 hs
        refine tg_iconst (v := (-1)) C dX4_beats_26 (by decide) ?_
        obtain rfl := Option.some.inj hs
        exact tg_iret hE rfl dX4_beats_27
      · have hs := tg_f cc7 hs
        refine tg_iload_n C dX4_beats_19 rfl 3 rfl ?_
        obtain ⟨rr8, ee9, hs⟩ := tg_b1_e hs
        refine tg_pS (As := [.int p3]) (rest := []) C hl0 (kX4_isPart l D p3 rr8 ee9) wm_520 meX4_isPart (by decide) rfl rfl (Nat.le_of_ble_eq_true rfl) dX4_beats_20 ?_
        refine tg_if_ne (tgt := 28) C dX4_beats_23 (by decide) (fun cc10 => ?_) (fun cc10 => ?_)
        · have hs := tg_t cc10 hs
          refine tg_aload_n C dX4_beats_28 rfl 0 rfl ?_
          refine tg_get (v := .ref t0) C cfX4 0 rfl 2 (by decide) wm_241 rfl dX4_beats_29 ?_
          refine tg_iload_n C dX4_beats_32 rfl 1 rfl ?_
          refine tg_iload_n C dX4_beats_33 rfl 2 rfl ?_
          obtain ⟨rr11, ee12, hs⟩ := tg_b1_e hs
          refine tg_pV (As := [.int p1, .int p2]) (rest := []) C hl0 (kX3_winsOf l D t0 t1 t2 t_pips t_many t_berths t_goal p1 p2 rr11 ee12) wm_616 meX3_winsOf (by decide) [2, 3, 4] rfl (by decide) rfl rfl rfl rfl (Nat.le_of_ble_eq_true rfl) dX4_beats_34 ?_
          refine tg_aload_n C dX4_beats_37 rfl 0 rfl ?_
          refine tg_get (v := .ref t0) C cfX4 0 rfl 2 (by decide) wm_241 rfl dX4_beats_38 ?_
          refine tg_iload_n C dX4_beats_41 rfl 1 rfl ?_
          refine tg_iload_n C dX4_beats_42 rfl 2 rfl ?_
          obtain ⟨rr13, ee14, hs⟩ := tg_b1_e hs
          refine tg_pV (As := [.int p1, .int p2]) (rest := [.int rr11]) C hl0 (kX3_pairsOf l D t0 t1 t2 t_pips t_many t_berths t_goal p1 p2 rr13 ee14) wm_620 meX3_pairsOf (by decide) [2, 3, 4] rfl (by decide) rfl rfl rfl rfl (Nat.le_of_ble_eq_true rfl) dX4_beats_43 ?_
          refine tg_iload_n C dX4_beats_46 rfl 3 rfl ?_
          obtain ⟨rr15, ee16, hs⟩ := tg_b1_e hs
          refine tg_pS (As := [.int rr11, .int rr13, .int p3]) (rest := []) C hl0 (kX4_partOf l D rr11 rr13 p3 rr15 ee16) wm_539 meX4_partOf (by decide) rfl rfl (Nat.le_of_ble_eq_true rfl) dX4_beats_47 ?_
          obtain rfl := Option.some.inj hs
          exact tg_iret hE rfl dX4_beats_50
        · have hs := tg_nf cc10 hs
          refine tg_iconst (v := (-1)) C dX4_beats_26 (by decide) ?_
          obtain rfl := Option.some.inj hs
          exact tg_iret hE rfl dX4_beats_27
set_option maxHeartbeats 2000000 in
set_option maxRecDepth 20000 in
theorem kX4_beats (l : Launch) (D : tg_D) (h0 x0 t0 t1 t2 r0 e0 e1 e2 rt z0 b0 b1 b2 b3 b4 c0 c1 c2 m0 i0 i1 i2 j0 j1 j2 k0 k1 k2 : Nat) (x_text : Nat → Int32) (x_typed : Int32) (t_pips : Nat → Int32) (t_many : Nat → Int32) (t_berths : Int32) (t_goal : Int32) (r_fault : Int32) (r_length : Int32) (r_kind : Int32) (r_start : Int32) (r_next : Int32) (r_number : Int32) (r_dice : Int32) (r_bt : Int32) (r_gt : Int32) (d_pips : Nat → Int32) (d_many : Nat → Int32) (d_berths : Int32) (d_goal : Int32) (a_shown : Nat → Int32) (a_calm : Nat → Int32) (a_windy : Nat → Int32) (a_turns : Nat → Int32) (a_many : Int32) (a_ever : Int32) (c_at : Nat → Int32) (c_past : Nat → Int32) (c_known : Int32) (i_at : Nat → Int32) (i_past : Nat → Int32) (i_known : Int32) (j_at : Nat → Int32) (j_past : Nat → Int32) (j_known : Int32) (x_kept : Nat → Int32) (x_cb : Nat → Int32) (x_ct : Nat → Int32) (x_chalked : Int32) (x_traced : Int64) (p1 : Int32) (p2 : Int32) (p3 : Int32) (r : Int32) (hs : fX4_beats t_pips t_many p1 p2 p3 = some r) : Met l yX4_beats [Cond.code yX4_beats cX4_beats 4 (some .int)] (tg_rm 2 49) (tg_Pre D (tw_X D h0 x0 t0 t1 t2 r0 e0 e1 e2 rt z0 b0 b1 b2 b3 b4 c0 c1 c2 m0 i0 i1 i2 j0 j1 j2 k0 k1 k2 x_text x_typed t_pips t_many t_berths t_goal r_fault r_length r_kind r_start r_next r_number r_dice r_bt r_gt d_pips d_many d_berths d_goal a_shown a_calm a_windy a_turns a_many a_ever c_at c_past c_known i_at i_past i_known j_at j_past j_known x_kept x_cb x_ct x_chalked x_traced) [.ref h0, .int p1, .int p2, .int p3]) (vp_Si (fun r' => r' = r)) 0 0 (fun _ => False) := tg_metI (by decide) (Nat.le_of_ble_eq_true rfl) (fun X hl0 C hE => vX4_beats l D h0 x0 t0 t1 t2 r0 e0 e1 e2 rt z0 b0 b1 b2 b3 b4 c0 c1 c2 m0 i0 i1 i2 j0 j1 j2 k0 k1 k2 x_text x_typed t_pips t_many t_berths t_goal r_fault r_length r_kind r_start r_next r_number r_dice r_bt r_gt d_pips d_many d_berths d_goal a_shown a_calm a_windy a_turns a_many a_ever c_at c_past c_known i_at i_past i_known j_at j_past j_known x_kept x_cb x_ct x_chalked x_traced p1 p2 p3 X hl0 C r hs hE)
