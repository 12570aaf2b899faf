def fX4_pilotMark (c_at : Nat → Int32) (x_traced : Int64) (p1 : Int32) : Option (Int32 × Int64) := tg_nm (x_traced + 100000) fun vv1 => tg_b2 (fX4_berthMark vv1 p1) fun rr2 vv3 => tg_b1 (fX1_tidesOf c_at 0) fun rr5 => tg_b1 (fX1_tidesOf c_at 1) fun rr7 => some ((rr2 + rr5) + rr7, vv3)
set_option maxHeartbeats 2000000 in
set_option maxRecDepth 20000 in
theorem vX4_pilotMark (l : Launch) (D : tg_D) (h0 x0 t0 t1 t2 r0 e0 e1 e2 rt z0 b0 b1 b2 b3 b4 c0 c1 c2 m0 i0 i1 i2 j0 j1 j2 k0 k1 k2 : Nat) (x_text : Nat → Int32) (x_typed : Int32) (t_pips : Nat → Int32) (t_many : Nat → Int32) (t_berths : Int32) (t_goal : Int32) (r_fault : Int32) (r_length : Int32) (r_kind : Int32) (r_start : Int32) (r_next : Int32) (r_number : Int32) (r_dice : Int32) (r_bt : Int32) (r_gt : Int32) (d_pips : Nat → Int32) (d_many : Nat → Int32) (d_berths : Int32) (d_goal : Int32) (a_shown : Nat → Int32) (a_calm : Nat → Int32) (a_windy : Nat → Int32) (a_turns : Nat → Int32) (a_many : Int32) (a_ever : Int32) (c_at : Nat → Int32) (c_past : Nat → Int32) (c_known : Int32) (i_at : Nat → Int32) (i_past : Nat → Int32) (i_known : Int32) (j_at : Nat → Int32) (j_past : Nat → Int32) (j_known : Int32) (x_kept : Nat → Int32) (x_cb : Nat → Int32) (x_ct : Nat → Int32) (x_chalked : Int32) (x_traced : Int64) (p1 : Int32) (X : tg_X) (hl0 : tg_l X = l) (C : tg_C X D 2 cX4_pilotMark RX4 1 21 0 0) (V : tg_V X) (r : Int32) (q_x_traced : Int64) (hs : fX4_pilotMark c_at x_traced p1 = some (r, q_x_traced)) (hE : tg_Ei X D 0 0 cX4_pilotMark .int r (tw_X D h0 x0 t0 t1 t2 r0 e0 e1 e2 rt z0 b0 b1 b2 b3 b4 c0 c1 c2 m0 i0 i1 i2 j0 j1 j2 k0 k1 k2 x_text x_typed t_pips t_many t_berths t_goal r_fault r_length r_kind r_start r_next r_number r_dice r_bt r_gt d_pips d_many d_berths d_goal a_shown a_calm a_windy a_turns a_many a_ever c_at c_past c_known i_at i_past i_known j_at j_past j_known x_kept x_cb x_ct x_chalked q_x_traced)) : tg_G X D 2 0 0 (tw_X D h0 x0 t0 t1 t2 r0 e0 e1 e2 rt z0 b0 b1 b2 b3 b4 c0 c1 c2 m0 i0 i1 i2 j0 j1 j2 k0 k1 k2 x_text x_typed t_pips t_many t_berths t_goal r_fault r_length r_kind r_start r_next r_number r_dice r_bt r_gt d_pips d_many d_berths d_goal a_shown a_calm a_windy a_turns a_many a_ever c_at c_past c_known i_at i_past i_known j_at j_past j_known x_kept x_cb x_ct x_chalked x_traced) [(0, .ref h0), (1, .int p1)] 0 [] := by
  unfold fX4_pilotMark at hs
  refine tg_aload_n C dX4_pilotMark_0 rfl 0 rfl ?_
  refine tg_dup C dX4_pilotMark_1 rfl ?_
  refine tg_get (v := .long x_traced) C cfX4 0 rfl 11 (by decide) wm_250 rfl dX4_pilotMark_2 ?_
  refine tg_ldc2 C wm_667 dX4_pilotMark_5 ?_
  refine tg_ladd C dX4_pilotMark_8 ?_
  obtain ⟨vv1, evv1, hs⟩ := tg_nm_e hs
  refine tg_topl evv1 ?_
  refine tg_put (ws' := (tw_X D h0 x0 t0 t1 t2 r0 e0 e1 e2 rt z0 b0 b1 b2 b3 b4 c0 c1 c2 m0 i0 i1 i2 j0 j1 j2 k0 k1 k2 x_text x_typed t_pips t_many t_berths t_goal r_fault r_length r_kind r_start r_next r_number r_dice r_bt r_gt d_pips d_many d_berths d_goal a_shown a_calm a_windy a_turns a_many a_ever c_at c_past c_known i_at i_past i_known j_at j_past j_known x_kept x_cb x_ct x_chalked vv1)) C V cfX4 0 rfl 11 (by decide) wm_250 rfl rfl rfl (Nat.le_of_ble_eq_true rfl) rfl dX4_pilotMark_9 ?_
  refine tg_aload_n C dX4_pilotMark_12 rfl 0 rfl ?_
  refine tg_iload_n C dX4_pilotMark_13 rfl 1 rfl ?_
  obtain ⟨rr2, vv3, ee4, hs⟩ := tg_b2_e hs
  refine tg_eVs (ws' := (tw_X D h0 x0 t0 t1 t2 r0 e0 e1 e2 rt z0 b0 b1 b2 b3 b4 c0 c1 c2 m0 i0 i1 i2 j0 j1 j2 k0 k1 k2 x_text x_typed t_pips t_many t_berths t_goal r_fault r_length r_kind r_start r_next r_number r_dice r_bt r_gt d_pips d_many d_berths d_goal a_shown a_calm a_windy a_turns a_many a_ever c_at c_past c_known i_at i_past i_known j_at j_past j_known x_kept x_cb x_ct x_chalked vv3)) (As := [.int p1]) (rest := []) C V hl0 (kX4_berthMark l D h0 x0 t0 t1 t2 r0 e0 e1 e2 rt z0 b0 b1 b2 b3 b4 c0 c1 c2 m0 i0 i1 i2 j0 j1 j2 k0 k1 k2 x_text x_typed t_pips t_many t_berths t_goal r_fault r_length r_kind r_start r_next r_number r_dice r_bt r_gt d_pips d_many d_berths d_goal a_shown a_calm a_windy a_turns a_many a_ever c_at c_past c_known i_at i_past i_known j_at j_past j_known x_kept x_cb x_ct x_chalked vv1 p1 rr2 vv3 ee4) wm_638 meX4_berthMark (by decide) rfl rfl rfl rfl (Nat.le_of_ble_eq_true rfl) rfl dX4_pilotMark_14 ?_
  refine tg_aload_n C dX4_pilotMark_17 rfl 0 rfl ?_
  refine tg_get (v := .ref c0) C cfX4 0 rfl 5 (by decide) wm_244 rfl dX4_pilotMark_18 ?_
  refine tg_iconst (v := 0) C dX4_pilotMark_21 (by decide) ?_
  obtain ⟨rr5, ee6, hs⟩ := tg_b1_e hs
  refine tg_pV (As := [.int 0]) (rest := [.int rr2]) C hl0 (kX1_tidesOf l D c0 c1 c2 t0 t1 t2 c_at c_past c_known t_pips t_many t_berths t_goal 0 rr5 ee6) wm_381 meX1_tidesOf (by decide) [15, 16, 17, 2, 3, 4] rfl (by decide) rfl rfl rfl rfl (Nat.le_of_ble_eq_true rfl) dX4_pilotMark_22 ?_
  refine tg_iadd C dX4_pilotMark_25 ?_
  refine tg_aload_n C dX4_pilotMark_26 rfl 0 rfl ?_
  refine tg_get (v := .ref c0) C cfX4 0 rfl 5 (by decide) wm_244 rfl dX4_pilotMark_27 ?_
  refine tg_iconst (v := 1) C dX4_pilotMark_30 (by decide) ?_
  obtain ⟨rr7, ee8, hs⟩ := tg_b1_e hs
  refine tg_pV (As := [.int 1]) (rest := [.int (rr2 + rr5)]) C hl0 (kX1_tidesOf l D c0 c1 c2 t0 t1 t2 c_at c_past c_known t_pips t_many t_berths t_goal 1 rr7 ee8) wm_381 meX1_tidesOf (by decide) [15, 16, 17, 2, 3, 4] rfl (by decide) rfl rfl rfl rfl (Nat.le_of_ble_eq_true rfl) dX4_pilotMark_31 ?_
  refine tg_iadd C dX4_pilotMark_34 ?_
  obtain ⟨rfl, rfl⟩ := tg_i2 hs
  exact tg_iret hE rfl dX4_pilotMark_35
set_option maxHeartbeats 2000000 in
set_option maxRecDepth 20000 in
theorem kX4_pilotMark (l : Launch) (D : tg_D) (h0 x0 t0 t1 t2 r0 e0 e1 e2 rt z0 b0 b1 b2 b3 b4 c0 c1 c2 m0 i0 i1 i2 j0 j1 j2 k0 k1 k2 : Nat) (x_text : Nat → Int32) (x_typed : Int32) (t_pips : Nat → Int32) (t_many : Nat → Int32) (t_berths : Int32) (t_goal : Int32) (r_fault : Int32) (r_length : Int32) (r_kind : Int32) (r_start : Int32) (r_next : Int32) (r_number : Int32) (r_dice : Int32) (r_bt : Int32) (r_gt : Int32) (d_pips : Nat → Int32) (d_many : Nat → Int32) (d_berths : Int32) (d_goal : Int32) (a_shown : Nat → Int32) (a_calm : Nat → Int32) (a_windy : Nat → Int32) (a_turns : Nat → Int32) (a_many : Int32) (a_ever : Int32) (c_at : Nat → Int32) (c_past : Nat → Int32) (c_known : Int32) (i_at : Nat → Int32) (i_past : Nat → Int32) (i_known : Int32) (j_at : Nat → Int32) (j_past : Nat → Int32) (j_known : Int32) (x_kept : Nat → Int32) (x_cb : Nat → Int32) (x_ct : Nat → Int32) (x_chalked : Int32) (x_traced : Int64) (p1 : Int32) (r : Int32) (q_x_traced : Int64) (hs : fX4_pilotMark c_at x_traced p1 = some (r, q_x_traced)) : Met l yX4_pilotMark [Cond.code yX4_pilotMark cX4_pilotMark 2 (some .int)] (tg_rm 1 21) (tg_Pre D (tw_X D h0 x0 t0 t1 t2 r0 e0 e1 e2 rt z0 b0 b1 b2 b3 b4 c0 c1 c2 m0 i0 i1 i2 j0 j1 j2 k0 k1 k2 x_text x_typed t_pips t_many t_berths t_goal r_fault r_length r_kind r_start r_next r_number r_dice r_bt r_gt d_pips d_many d_berths d_goal a_shown a_calm a_windy a_turns a_many a_ever c_at c_past c_known i_at i_past i_known j_at j_past j_known x_kept x_cb x_ct x_chalked x_traced) [.ref h0, .int p1]) (tg_Qe (some (.int r)) D (tw_X D h0 x0 t0 t1 t2 r0 e0 e1 e2 rt z0 b0 b1 b2 b3 b4 c0 c1 c2 m0 i0 i1 i2 j0 j1 j2 k0 k1 k2 x_text x_typed t_pips t_many t_berths t_goal r_fault r_length r_kind r_start r_next r_number r_dice r_bt r_gt d_pips d_many d_berths d_goal a_shown a_calm a_windy a_turns a_many a_ever c_at c_past c_known i_at i_past i_known j_at j_past j_known x_kept x_cb x_ct x_chalked q_x_traced) (tg_Ad (tw_X D h0 x0 t0 t1 t2 r0 e0 e1 e2 rt z0 b0 b1 b2 b3 b4 c0 c1 c2 m0 i0 i1 i2 j0 j1 j2 k0 k1 k2 x_text x_typed t_pips t_many t_berths t_goal r_fault r_length r_kind r_start r_next r_number r_dice r_bt r_gt d_pips d_many d_berths d_goal a_shown a_calm a_windy a_turns a_many a_ever c_at c_past c_known i_at i_past i_known j_at j_past j_known x_kept x_cb x_ct x_chalked x_traced))) 0 0 (tg_Ad (tw_X D h0 x0 t0 t1 t2 r0 e0 e1 e2 rt z0 b0 b1 b2 b3 b4 c0 c1 c2 m0 i0 i1 i2 j0 j1 j2 k0 k1 k2 x_text x_typed t_pips t_many t_berths t_goal r_fault r_length r_kind r_start r_next r_number r_dice r_bt r_gt d_pips d_many d_berths d_goal a_shown a_calm a_windy a_turns a_many a_ever c_at c_past c_known i_at i_past i_known j_at j_past j_known x_kept x_cb x_ct x_chalked x_traced)) := tg_metEi (by decide) (Nat.le_of_ble_eq_true rfl) (fun X hl0 C V hE => vX4_pilotMark l D h0 x0 t0 t1 t2 r0 e0 e1 e2 rt z0 b0 b1 b2 b3 b4 c0 c1 c2 m0 i0 i1 i2 j0 j1 j2 k0 k1 k2 x_text x_typed t_pips t_many t_berths t_goal r_fault r_length r_kind r_start r_next r_number r_dice r_bt r_gt d_pips d_many d_berths d_goal a_shown a_calm a_windy a_turns a_many a_ever c_at c_past c_known i_at i_past i_known j_at j_past j_known x_kept x_cb x_ct x_chalked x_traced p1 X hl0 C V r q_x_traced hs hE)
def fX4_mark (t_berths : Int32) (a_calm : Nat → Int32) (a_windy : Nat → Int32) (a_turns : Nat → Int32) (a_many : Int32) (c_at : Nat → Int32) (x_traced : Int64) (p1 : Int32) (p2 : Int32) : Option (Int32 × Int64) := tg_b1 (fX4_isBerth t_berths p2) fun rr1 => if ¬ rr1 = 0 then (if p1 = 0 then (tg_b2 (fX4_berthMark x_traced p2) fun rr5 vv6 => some (rr5, vv6)) else (if p1 = 1 then (tg_b2 (fX4_shipMark a_calm a_windy a_turns a_many c_at x_traced p2) fun rr9 vv10 => some (rr9, vv10)) else (if p1 = 2 then (tg_b2 (fX4_quayMark c_at x_traced p2) fun rr13 vv14 => some (rr13, vv14)) else (if p1 = 3 then (tg_b2 (fX4_coalMark a_calm a_windy a_turns a_many c_at x_traced p2) fun rr17 vv18 => some (rr17, vv18)) else (if p1 = 4 then (tg_b2 (fX4_lentMark c_at x_traced p2) fun rr21 vv22 => some (rr21, vv22)) else (if p1 = 5 then (tg_b2 (fX4_pilotMark c_at x_traced p2) fun rr25 vv26 => some (rr25, vv26)) else (some ((-1000000), x_traced)))))))) else (some ((-1000000), x_traced))
set_option maxHeartbeats 2000000 in
set_option maxRecDepth 20000 in
theorem vX4_mark (l : Launch) (D : tg_D) (h0 x0 t0 t1 t2 r0 e0 e1 e2 rt z0 b0 b1 b2 b3 b4 c0 c1 c2 m0 i0 i1 i2 j0 j1 j2 k0 k1 k2 : Nat) (x_text : Nat → Int32) (x_typed : Int32) (t_pips : Nat → Int32) (t_many : Nat → Int32) (t_berths : Int32) (t_goal : Int32) (r_fault : Int32) (r_length : Int32) (r_kind : Int32) (r_start : Int32) (r_next : Int32) (r_number : Int32) (r_dice : Int32) (r_bt : Int32) (r_gt : Int32) (d_pips : Nat → Int32) (d_many : Nat → Int32) (d_berths : Int32) (d_goal : Int32) (a_shown : Nat → Int32) (a_calm : Nat → Int32) (a_windy : Nat → Int32) (a_turns : Nat → Int32) (a_many : Int32) (a_ever : Int32) (c_at : Nat → Int32) (c_past : Nat → Int32) (c_known : Int32) (i_at : Nat → Int32) (i_past : Nat → Int32) (i_known : Int32) (j_at : Nat → Int32) (j_past : Nat → Int32) (j_known : Int32) (x_kept : Nat → Int32) (x_cb : Nat → Int32) (x_ct : Nat → Int32) (x_chalked : Int32) (x_traced : Int64) (p1 : Int32) (p2 : Int32) (X : tg_X) (hl0 : tg_l X = l) (C : tg_C X D 3 cX4_mark RX4 6 131 0 0) (V : tg_V X) (r : Int32) (q_x_traced : Int64) (hs : fX4_mark t_berths a_calm a_windy a_turns a_many c_at x_traced p1 p2 = some (r, q_x_traced)) (hE : tg_Ei X D 0 0 cX4_mark .int r (tw_X D h0 x0 t0 t1 t2 r0 e0 e1 e2 rt z0 b0 b1 b2 b3 b4 c0 c1 c2 m0 i0 i1 i2 j0 j1 j2 k0 k1 k2 x_text x_typed t_pips t_many t_berths t_goal r_fault r_length r_kind r_start r_next r_number r_dice r_bt r_gt d_pips d_many d_berths d_goal a_shown a_calm a_windy a_turns a_many a_ever c_at c_past c_known i_at i_past i_known j_at j_past j_known x_kept x_cb x_ct x_chalked q_x_traced)) : tg_G X D 3 0 0 (tw_X D h0 x0 t0 t1 t2 r0 e0 e1 e2 rt z0 b0 b1 b2 b3 b4 c0 c1 c2 m0 i0 i1 i2 j0 j1 j2 k0 k1 k2 x_text x_typed t_pips t_many t_berths t_goal r_fault r_length r_kind r_start r_next r_number r_dice r_bt r_gt d_pips d_many d_berths d_goal a_shown a_calm a_windy a_turns a_many a_ever c_at c_past c_known i_at i_past i_known j_at j_past j_known x_kept x_cb x_ct x_chalked x_traced) [(0, .ref h0), (1, .int p1), (2, .int p2)] 0 [] := by
  unfold fX4_mark at hs
  refine tg_aload_n C dX4_mark_0 rfl 0 rfl ?_
  refine tg_iload_n C dX4_mark_1 rfl 2 rfl ?_
  obtain ⟨rr1, ee2, hs⟩ := tg_b1_e hs
  refine tg_pVs (As := [.int p2]) (rest := []) C hl0 (kX4_isBerth l D h0 x0 t0 t1 t2 r0 e0 e1 e2 rt z0 b0 b1 b2 b3 b4 c0 c1 c2 m0 i0 i1 i2 j0 j1 j2 k0 k1 k2 x_text x_typed t_pips t_many t_berths t_goal r_fault r_length r_kind r_start r_next r_number r_dice r_bt r_gt d_pips d_many d_berths d_goal a_shown a_calm a_windy a_turns a_many a_ever c_at c_past c_known i_at i_past i_known j_at j_past j_known x_kept x_cb x_ct x_chalked x_traced p2 rr1 ee2) wm_360 meX4_isBerth (by decide) rfl rfl rfl rfl (Nat.le_of_ble_eq_true rfl) dX4_mark_2 ?_
  refine tg_if_ne (tgt := 11) C dX4_mark_5 (by decide) (fun cc3 => ?_) (fun cc3 => ?_)
  · have hs := tg_t cc3 hs
    refine tg_iload_n C dX4_mark_11 rfl 1 rfl ?_
    by_cases ss4 : p1 = 0
    · have hs := tg_t ss4 hs
      refine tg_swIn (off := 40) (tgt := 52) C 0 ss4 dX4_mark_12 (by decide) (by decide) ?_
      refine tg_aload_n C dX4_mark_52 rfl 0 rfl ?_
      refine tg_iload_n C dX4_mark_53 rfl 2 rfl ?_
      obtain ⟨rr5, vv6, ee7, hs⟩ := tg_b2_e hs
      refine tg_eVs (ws' := (tw_X D h0 x0 t0 t1 t2 r0 e0 e1 e2 rt z0 b0 b1 b2 b3 b4 c0 c1 c2 m0 i0 i1 i2 j0 j1 j2 k0 k1 k2 x_text x_typed t_pips t_many t_berths t_goal r_fault r_length r_kind r_start r_next r_number r_dice r_bt r_gt d_pips d_many d_berths d_goal a_shown a_calm a_windy a_turns a_many a_ever c_at c_past c_known i_at i_past i_known j_at j_past j_known x_kept x_cb x_ct x_chalked vv6)) (As := [.int p2]) (rest := []) C V hl0 (kX4_berthMark l D h0 x0 t0 t1 t2 r0 e0 e1 e2 rt z0 b0 b1 b2 b3 b4 c0 c1 c2 m0 i0 i1 i2 j0 j1 j2 k0 k1 k2 x_text x_typed t_pips t_many t_berths t_goal r_fault r_length r_kind r_start r_next r_number r_dice r_bt r_gt d_pips d_many d_berths d_goal a_shown a_calm a_windy a_turns a_many a_ever c_at c_past c_known i_at i_past i_known j_at j_past j_known x_kept x_cb x_ct x_chalked x_traced p2 rr5 vv6 ee7) wm_638 meX4_berthMark (by decide) rfl rfl rfl rfl (Nat.le_of_ble_eq_true rfl) rfl dX4_mark_54 ?_
      obtain ⟨rfl, rfl⟩ := tg_i2 hs
      exact tg_iret hE rfl dX4_mark_57
    · have hs := tg_f ss4 hs
      by_cases ss8 : p1 = 1
      · have hs := tg_t ss8 hs
        refine tg_swIn (off := 46) (tgt := 58) C 1 ss8 dX4_mark_12 (by decide) (by decide) ?_
        refine tg_aload_n C dX4_mark_58 rfl 0 rfl ?_
        refine tg_iload_n C dX4_mark_59 rfl 2 rfl ?_
        obtain ⟨rr9, vv10, ee11, hs⟩ := tg_b2_e hs
        refine tg_eVs (ws' := (tw_X D h0 x0 t0 t1 t2 r0 e0 e1 e2 rt z0 b0 b1 b2 b3 b4 c0 c1 c2 m0 i0 i1 i2 j0 j1 j2 k0 k1 k2 x_text x_typed t_pips t_many t_berths t_goal r_fault r_length r_kind r_start r_next r_number r_dice r_bt r_gt d_pips d_many d_berths d_goal a_shown a_calm a_windy a_turns a_many a_ever c_at c_past c_known i_at i_past i_known j_at j_past j_known x_kept x_cb x_ct x_chalked vv10)) (As := [.int p2]) (rest := []) C V hl0 (kX4_shipMark l D h0 x0 t0 t1 t2 r0 e0 e1 e2 rt z0 b0 b1 b2 b3 b4 c0 c1 c2 m0 i0 i1 i2 j0 j1 j2 k0 k1 k2 x_text x_typed t_pips t_many t_berths t_goal r_fault r_length r_kind r_start r_next r_number r_dice r_bt r_gt d_pips d_many d_berths d_goal a_shown a_calm a_windy a_turns a_many a_ever c_at c_past c_known i_at i_past i_known j_at j_past j_known x_kept x_cb x_ct x_chalked x_traced p2 rr9 vv10 ee11) wm_642 meX4_shipMark (by decide) rfl rfl rfl rfl (Nat.le_of_ble_eq_true rfl) rfl dX4_mark_60 ?_
        obtain ⟨rfl, rfl⟩ := tg_i2 hs
        exact tg_iret hE rfl dX4_mark_63
      · have hs := tg_f ss8 hs
        by_cases ss12 : p1 = 2
        · have hs := tg_t ss12 hs
          refine tg_swIn (off := 52) (tgt := 64) C 2 ss12 dX4_mark_12 (by decide) (by decide) ?_
          refine tg_aload_n C dX4_mark_64 rfl 0 rfl ?_
          refine tg_iload_n C dX4_mark_65 rfl 2 rfl ?_
          obtain ⟨rr13, vv14, ee15, hs⟩ := tg_b2_e hs
          refine tg_eVs (ws' := (tw_X D h0 x0 t0 t1 t2 r0 e0 e1 e2 rt z0 b0 b1 b2 b3 b4 c0 c1 c2 m0 i0 i1 i2 j0 j1 j2 k0 k1 k2 x_text x_typed t_pips t_many t_berths t_goal r_fault r_length r_kind r_start r_next r_number r_dice r_bt r_gt d_pips d_many d_berths d_goal a_shown a_calm a_windy a_turns a_many a_ever c_at c_past c_known i_at i_past i_known j_at j_past j_known x_kept x_cb x_ct x_chalked vv14)) (As := [.int p2]) (rest := []) C V hl0 (kX4_quayMark l D h0 x0 t0 t1 t2 r0 e0 e1 e2 rt z0 b0 b1 b2 b3 b4 c0 c1 c2 m0 i0 i1 i2 j0 j1 j2 k0 k1 k2 x_text x_typed t_pips t_many t_berths t_goal r_fault r_length r_kind r_start r_next r_number r_dice r_bt r_gt d_pips d_many d_berths d_goal a_shown a_calm a_windy a_turns a_many a_ever c_at c_past c_known i_at i_past i_known j_at j_past j_known x_kept x_cb x_ct x_chalked x_traced p2 rr13 vv14 ee15) wm_647 meX4_quayMark (by decide) rfl rfl rfl rfl (Nat.le_of_ble_eq_true rfl) rfl dX4_mark_66 ?_
          obtain ⟨rfl, rfl⟩ := tg_i2 hs
          exact tg_iret hE rfl dX4_mark_69
        · have hs := tg_f ss12 hs
          by_cases ss16 : p1 = 3
          · have hs := tg_t ss16 hs
            refine tg_swIn (off := 58) (tgt := 70) C 3 ss16 dX4_mark_12 (by decide) (by decide) ?_
            refine tg_aload_n C dX4_mark_70 rfl 0 rfl ?_
            refine tg_iload_n C dX4_mark_71 rfl 2 rfl ?_
            obtain ⟨rr17, vv18, ee19, hs⟩ := tg_b2_e hs
            refine tg_eVs (ws' := (tw_X D h0 x0 t0 t1 t2 r0 e0 e1 e2 rt z0 b0 b1 b2 b3 b4 c0 c1 c2 m0 i0 i1 i2 j0 j1 j2 k0 k1 k2 x_text x_typed t_pips t_many t_berths t_goal r_fault r_length r_kind r_start r_next r_number r_dice r_bt r_gt d_pips d_many d_berths d_goal a_shown a_calm a_windy a_turns a_many a_ever c_at c_past c_known i_at i_past i_known j_at j_past j_known x_kept x_cb x_ct x_chalked vv18)) (As := [.int p2]) (rest := []) C V hl0 (kX4_coalMark l D h0 x0 t0 t1 t2 r0 e0 e1 e2 rt z0 b0 b1 b2 b3 b4 c0 c1 c2 m0 i0 i1 i2 j0 j1 j2 k0 k1 k2 x_text x_typed t_pips t_many t_berths t_goal r_fault r_length r_kind r_start r_next r_number r_dice r_bt r_gt d_pips d_many d_berths d_goal a_shown a_calm a_windy a_turns a_many a_ever c_at c_past c_known i_at i_past i_known j_at j_past j_known x_kept x_cb x_ct x_chalked x_traced p2 rr17 vv18 ee19) wm_653 meX4_coalMark (by decide) rfl rfl rfl rfl (Nat.le_of_ble_eq_true rfl) rfl dX4_mark_72 ?_
            obtain ⟨rfl, rfl⟩ := tg_i2 hs
            exact tg_iret hE rfl dX4_mark_75
          · have hs := tg_f ss16 hs
            by_cases ss20 : p1 = 4
            · have hs := tg_t ss20 hs
              refine tg_swIn (off := 64) (tgt := 76) C 4 ss20 dX4_mark_12 (by decide) (by decide) ?_
              refine tg_aload_n C dX4_mark_76 rfl 0 rfl ?_
              refine tg_iload_n C dX4_mark_77 rfl 2 rfl ?_
              obtain ⟨rr21, vv22, ee23, hs⟩ := tg_b2_e hs
              refine tg_eVs (ws' := (tw_X D h0 x0 t0 t1 t2 r0 e0 e1 e2 rt z0 b0 b1 b2 b3 b4 c0 c1 c2 m0 i0 i1 i2 j0 j1 j2 k0 k1 k2 x_text x_typed t_pips t_many t_berths t_goal r_fault r_length r_kind r_start r_next r_number r_dice r_bt r_gt d_pips d_many d_berths d_goal a_shown a_calm a_windy a_turns a_many a_ever c_at c_past c_known i_at i_past i_known j_at j_past j_known x_kept x_cb x_ct x_chalked vv22)) (As := [.int p2]) (rest := []) C V hl0 (kX4_lentMark l D h0 x0 t0 t1 t2 r0 e0 e1 e2 rt z0 b0 b1 b2 b3 b4 c0 c1 c2 m0 i0 i1 i2 j0 j1 j2 k0 k1 k2 x_text x_typed t_pips t_many t_berths t_goal r_fault r_length r_kind r_start r_next r_number r_dice r_bt r_gt d_pips d_many d_berths d_goal a_shown a_calm a_windy a_turns a_many a_ever c_at c_past c_known i_at i_past i_known j_at j_past j_known x_kept x_cb x_ct x_chalked x_traced p2 rr21 vv22 ee23) wm_658 meX4_lentMark (by decide) rfl rfl rfl rfl (Nat.le_of_ble_eq_true rfl) rfl dX4_mark_78 ?_
              obtain ⟨rfl, rfl⟩ := tg_i2 hs
              exact tg_iret hE rfl dX4_mark_81
            · have hs := tg_f ss20 hs
              by_cases ss24 : p1 = 5
              · have hs := tg_t ss24 hs
                refine tg_swIn (off := 70) (tgt := 82) C 5 ss24 dX4_mark_12 (by decide) (by decide) ?_
                refine tg_aload_n C dX4_mark_82 rfl 0 rfl ?_
                refine tg_iload_n C dX4_mark_83 rfl 2 rfl ?_
                obtain ⟨rr25, vv26, ee27, hs⟩ := tg_b2_e hs
                refine tg_eVs (ws' := (tw_X D h0 x0 t0 t1 t2 r0 e0 e1 e2 rt z0 b0 b1 b2 b3 b4 c0 c1 c2 m0 i0 i1 i2 j0 j1 j2 k0 k1 k2 x_text x_typed t_pips t_many t_berths t_goal r_fault r_length r_kind r_start r_next r_number r_dice r_bt r_gt d_pips d_many d_berths d_goal a_shown a_calm a_windy a_turns a_many a_ever c_at c_past c_known i_at i_past i_known j_at j_past j_known x_kept x_cb x_ct x_chalked vv26)) (As := [.int p2]) (rest := []) C V hl0 (kX4_pilotMark l D h0 x0 t0 t1 t2 r0 e0 e1 e2 rt z0 b0 b1 b2 b3 b4 c0 c1 c2 m0 i0 i1 i2 j0 j1 j2 k0 k1 k2 x_text x_typed t_pips t_many t_berths t_goal r_fault r_length r_kind r_start r_next r_number r_dice r_bt r_gt d_pips d_many d_berths d_goal a_shown a_calm a_windy a_turns a_many a_ever c_at c_past c_known i_at i_past i_known j_at j_past j_known x_kept x_cb x_ct x_chalked x_traced p2 rr25 vv26 ee27) wm_663 meX4_pilotMark (by decide) rfl rfl rfl rfl (Nat.le_of_ble_eq_true rfl) rfl dX4_mark_84 ?_
                obtain ⟨rfl, rfl⟩ := tg_i2 hs
                exact tg_iret hE rfl dX4_mark_87
              · have hs := tg_f ss24 hs
                refine tg_swOut (tgt := 88) C (by have a0 := lv_neT (a := 0) ss4 rfl; have a1 := lv_neT (a := 1) ss8 rfl; have a2 := lv_neT (a := 2) ss12 rfl; have a3 := lv_neT (a := 3) ss16 rfl; have a4 := lv_neT (a := 4) ss20 rfl; have a5 := lv_neT (a := 5) ss24 rfl; omega) dX4_mark_12 (by decide) ?_
                refine tg_ldc C wm_515 dX4_mark_88 ?_
                obtain ⟨rfl, rfl⟩ := tg_i2 hs
                exact tg_iret hE rfl dX4_mark_90
  · have hs := tg_nf cc3 hs
    refine tg_ldc C wm_515 dX4_mark_8 ?_
    obtain ⟨rfl, rfl⟩ := tg_i2 hs
    exact tg_iret hE rfl dX4_mark_10
set_option maxHeartbeats 2000000 in
set_option maxRecDepth 20000 in
theorem kX4_mark (l : Launch) (D : tg_D) (h0 x0 t0 t1 t2 r0 e0 e1 e2 rt z0 b0 b1 b2 b3 b4 c0 c1 c2 m0 i0 i1 i2 j0 j1 j2 k0 k1 k2 : Nat) (x_text : Nat → Int32) (x_typed : Int32) (t_pips : Nat → Int32) (t_many : Nat → Int32) (t_berths : Int32) (t_goal : Int32) (r_fault : Int32) (r_length : Int32) (r_kind : Int32) (r_start : Int32) (r_next : Int32) (r_number : Int32) (r_dice : Int32) (r_bt : Int32) (r_gt : Int32) (d_pips : Nat → Int32) (d_many : Nat → Int32) (d_berths : Int32) (d_goal : Int32) (a_shown : Nat → Int32) (a_calm : Nat → Int32) (a_windy : Nat → Int32) (a_turns : Nat → Int32) (a_many : Int32) (a_ever : Int32) (c_at : Nat → Int32) (c_past : Nat → Int32) (c_known : Int32) (i_at : Nat → Int32) (i_past : Nat → Int32) (i_known : Int32) (j_at : Nat → Int32) (j_past : Nat → Int32) (j_known : Int32) (x_kept : Nat → Int32) (x_cb : Nat → Int32) (x_ct : Nat → Int32) (x_chalked : Int32) (x_traced : Int64) (p1 : Int32) (p2 : Int32) (r : Int32) (q_x_traced : Int64) (hs : fX4_mark t_berths a_calm a_windy a_turns a_many c_at x_traced p1 p2 = some (r, q_x_traced)) : Met l yX4_mark [Cond.code yX4_mark cX4_mark 3 (some .int)] (tg_rm 6 131) (tg_Pre D (tw_X D h0 x0 t0 t1 t2 r0 e0 e1 e2 rt z0 b0 b1 b2 b3 b4 c0 c1 c2 m0 i0 i1 i2 j0 j1 j2 k0 k1 k2 x_text x_typed t_pips t_many t_berths t_goal r_fault r_length r_kind r_start r_next r_number r_dice r_bt r_gt d_pips d_many d_berths d_goal a_shown a_calm a_windy a_turns a_many a_ever c_at c_past c_known i_at i_past i_known j_at j_past j_known x_kept x_cb x_ct x_chalked x_traced) [.ref h0, .int p1, .int p2]) (tg_Qe (some (.int r)) D (tw_X D h0 x0 t0 t1 t2 r0 e0 e1 e2 rt z0 b0 b1 b2 b3 b4 c0 c1 c2 m0 i0 i1 i2 j0 j1 j2 k0 k1 k2 x_text x_typed t_pips t_many t_berths t_goal r_fault r_length r_kind r_start r_next r_number r_dice r_bt r_gt d_pips d_many d_berths d_goal a_shown a_calm a_windy a_turns a_many a_ever c_at c_past c_known i_at i_past i_known j_at j_past j_known x_kept x_cb x_ct x_chalked q_x_traced) (tg_Ad (tw_X D h0 x0 t0 t1 t2 r0 e0 e1 e2 rt z0 b0 b1 b2 b3 b4 c0 c1 c2 m0 i0 i1 i2 j0 j1 j2 k0 k1 k2 x_text x_typed t_pips t_many t_berths t_goal r_fault r_length r_kind r_start r_next r_number r_dice r_bt r_gt d_pips d_many d_berths d_goal a_shown a_calm a_windy a_turns a_many a_ever c_at c_past c_known i_at i_past i_known j_at j_past j_known x_kept x_cb x_ct x_chalked x_traced))) 0 0 (tg_Ad (tw_X D h0 x0 t0 t1 t2 r0 e0 e1 e2 rt z0 b0 b1 b2 b3 b4 c0 c1 c2 m0 i0 i1 i2 j0 j1 j2 k0 k1 k2 x_text x_typed t_pips t_many t_berths t_goal r_fault r_length r_kind r_start r_next r_number r_dice r_bt r_gt d_pips d_many d_berths d_goal a_shown a_calm a_windy a_turns a_many a_ever c_at c_past c_known i_at i_past i_known j_at j_past j_known x_kept x_cb x_ct x_chalked x_traced)) := tg_metEi (by decide) (Nat.le_of_ble_eq_true rfl) (fun X hl0 C V hE => vX4_mark l D h0 x0 t0 t1 t2 r0 e0 e1 e2 rt z0 b0 b1 b2 b3 b4 c0 c1 c2 m0 i0 i1 i2 j0 j1 j2 k0 k1 k2 x_text x_typed t_pips t_many t_berths t_goal r_fault r_length r_kind r_start r_next r_number r_dice r_bt r_gt d_pips d_many d_berths d_goal a_shown a_calm a_windy a_turns a_many a_ever c_at c_past c_known i_at i_past i_known j_at j_past j_known x_kept x_cb x_ct x_chalked x_traced p1 p2 X hl0 C V r q_x_traced hs hE)
def fX4_keep (t_goal : Int32) (c_at : Nat → Int32) (c_past : Nat → Int32) (c_known : Int32) (i_at : Nat → Int32) (i_past : Nat → Int32) (i_known : Int32) (j_at : Nat → Int32) (j_past : Nat → Int32) (j_known : Int32) (x_kept : Nat → Int32) (p1 : Int32) : Option (Int32 × (Nat → Int32) × (Nat → Int32) × Int32 × (Nat → Int32) × (Nat → Int32) × Int32 × (Nat → Int32)) := tg_b1 (fX4_isImage p1) fun rr1 => if ¬ rr1 = 0 then (if p1 = 0 then (tg_b3 (fX1_becomes i_at i_past c_at c_past c_known) fun gg6 gg7 vv8 => tg_ck p1 2 <| tg_nm (upd x_kept (Int32.toNatClampNeg p1) (vp_nar .boolean 1)) fun gg10 => tg_b1 (fX1_whoMoves c_at t_goal) fun rr12 => some (rr12, gg6, gg7, vv8, j_at, j_past, j_known, gg10)) else if p1 = 1 then (tg_b3 (fX1_becomes j_at j_past c_at c_past c_known) fun gg14 gg15 vv16 => tg_ck p1 2 <| tg_nm (upd x_kept (Int32.toNatClampNeg p1) (vp_nar .boolean 1)) fun gg18 => tg_b1 (fX1_whoMoves c_at t_goal) fun rr20 => some (rr20, i_at, i_past, i_known, gg14, gg15, vv16, gg18)) else none) else (some ((-1), i_at, i_past, i_known, j_at, j_past, j_known, x_kept))
set_option maxHeartbeats 2000000 in
set_option maxRecDepth 20000 in
theorem vX4_keep (l : Launch) (D : tg_D) (h0 x0 t0 t1 t2 r0 e0 e1 e2 rt z0 b0 b1 b2 b3 b4 c0 c1 c2 m0 i0 i1 i2 j0 j1 j2 k0 k1 k2 : Nat) (x_text : Nat → Int32) (x_typed : Int32) (t_pips : Nat → Int32) (t_many : Nat → Int32) (t_berths : Int32) (t_goal : Int32) (r_fault : Int32) (r_length : Int32) (r_kind : Int32) (r_start : Int32) (r_next : Int32) (r_number : Int32) (r_dice : Int32) (r_bt : Int32) (r_gt : Int32) (d_pips : Nat → Int32) (d_many : Nat → Int32) (d_berths : Int32) (d_goal : Int32) (a_shown : Nat → Int32) (a_calm : Nat → Int32) (a_windy : Nat → Int32) (a_turns : Nat → Int32) (a_many : Int32) (a_ever : Int32) (c_at : Nat → Int32) (c_past : Nat → Int32) (c_known : Int32) (i_at : Nat → Int32) (i_past : Nat → Int32) (i_known : Int32) (j_at : Nat → Int32) (j_past : Nat → Int32) (j_known : Int32) (x_kept : Nat → Int32) (x_cb : Nat → Int32) (x_ct : Nat → Int32) (x_chalked : Int32) (x_traced : Int64) (p1 : Int32) (X : tg_X) (hl0 : tg_l X = l) (C : tg_C X D 2 cX4_keep RX4 3 62 0 0) (V : tg_V X) (r : Int32) (q_i_at : Nat → Int32) (q_i_past : Nat → Int32) (q_i_known : Int32) (q_j_at : Nat → Int32) (q_j_past : Nat → Int32) (q_j_known : Int32) (q_x_kept : Nat → Int32) (hs : fX4_keep t_goal c_at c_past c_known i_at i_past i_known j_at j_past j_known x_kept p1 = some (r, q_i_at, q_i_past, q_i_known, q_j_at, q_j_past, q_j_known, q_x_kept)) (hE : tg_Ei X D 0 0 cX4_keep .int r (tw_X D h0 x0 t0 t1 t2 r0 e0 e1 e2 rt z0 b0 b1 b2 b3 b4 c0 c1 c2 m0 i0 i1 i2 j0 j1 j2 k0 k1 k2 x_text x_typed t_pips t_many t_berths t_goal r_fault r_length r_kind r_start r_next r_number r_dice r_bt r_gt d_pips d_many d_berths d_goal a_shown a_calm a_windy a_turns a_many a_ever c_at c_past c_known q_i_at q_i_past q_i_known q_j_at q_j_past q_j_known q_x_kept x_cb x_ct x_chalked x_traced)) : tg_G X D 2 0 0 (tw_X D h0 x0 t0 t1 t2 r0 e0 e1 e2 rt z0 b0 b1 b2 b3 b4 c0 c1 c2 m0 i0 i1 i2 j0 j1 j2 k0 k1 k2 x_text x_typed t_pips t_many t_berths t_goal r_fault r_length r_kind r_start r_next r_number r_dice r_bt r_gt d_pips d_many d_berths d_goal a_shown a_calm a_windy a_turns a_many a_ever c_at c_past c_known i_at i_past i_known j_at j_past j_known x_kept x_cb x_ct x_chalked x_traced) [(0, .ref h0), (1, .int p1)] 0 [] := by
  unfold fX4_keep at hs
  refine tg_iload_n C dX4_keep_0 rfl 1 rfl ?_
  obtain ⟨rr1, ee2, hs⟩ := tg_b1_e hs
  refine tg_pS (As := [.int p1]) (rest := []) C hl0 (kX4_isImage l D p1 rr1 ee2) wm_672 meX4_isImage (by decide) rfl rfl (Nat.le_of_ble_eq_true rfl) dX4_keep_1 ?_
  refine tg_if_ne (tgt := 9) C dX4_keep_4 (by decide) (fun cc3 => ?_) (fun cc3 => ?_)
  · have hs := tg_t cc3 hs
    refine tg_aload_n C dX4_keep_9 rfl 0 rfl ?_
    refine tg_get (v := .ref m0) C cfX4 0 rfl 6 (by decide) wm_245 rfl dX4_keep_10 ?_
    refine tg_iload_n C dX4_keep_13 rfl 1 rfl ?_
    by_cases hh4 : p1 = 0
    · have hs := tg_t hh4 hs
      refine tg_aald (b := i0) C 18 3 rfl rfl (by rw [hh4]; exact tg_vin (by decide)) (by rw [hh4]; rfl) dX4_keep_14 ?_
      refine tg_aload_n C dX4_keep_15 rfl 0 rfl ?_
      refine tg_get (v := .ref c0) C cfX4 0 rfl 5 (by decide) wm_244 rfl dX4_keep_16 ?_
      obtain ⟨gg6, gg7, vv8, ee9, hs⟩ := tg_b3_e hs
      refine tg_eV (ws' := (tw_X D h0 x0 t0 t1 t2 r0 e0 e1 e2 rt z0 b0 b1 b2 b3 b4 c0 c1 c2 m0 i0 i1 i2 j0 j1 j2 k0 k1 k2 x_text x_typed t_pips t_many t_berths t_goal r_fault r_length r_kind r_start r_next r_number r_dice r_bt r_gt d_pips d_many d_berths d_goal a_shown a_calm a_windy a_turns a_many a_ever c_at c_past c_known gg6 gg7 vv8 j_at j_past j_known x_kept x_cb x_ct x_chalked x_traced)) (As := [.ref c0]) (rest := []) C V hl0 (kX1_becomes l D i0 i1 i2 c0 c1 c2 t0 i_at i_past i_known c_at c_past c_known gg6 gg7 vv8 ee9) wm_675 meX1_becomes (by decide) [19, 20, 21, 15, 16, 17] rfl (by decide) rfl rfl rfl rfl (Nat.le_of_ble_eq_true rfl) rfl rfl rfl dX4_keep_19 ?_
      refine tg_aload_n C dX4_keep_22 rfl 0 rfl ?_
      refine tg_get (v := .ref k0) C cfX4 0 rfl 7 (by decide) wm_246 rfl dX4_keep_23 ?_
      refine tg_iload_n C dX4_keep_26 rfl 1 rfl ?_
      refine tg_iconst (v := 1) C dX4_keep_27 (by decide) ?_
      obtain ⟨hh11, hs⟩ := tg_ck_e hs
      obtain ⟨gg10, egg10, hs⟩ := tg_nm_e hs
      refine tg_zast (ws' := (tw_X D h0 x0 t0 t1 t2 r0 e0 e1 e2 rt z0 b0 b1 b2 b3 b4 c0 c1 c2 m0 i0 i1 i2 j0 j1 j2 k0 k1 k2 x_text x_typed t_pips t_many t_berths t_goal r_fault r_length r_kind r_start r_next r_number r_dice r_bt r_gt d_pips d_many d_berths d_goal a_shown a_calm a_windy a_turns a_many a_ever c_at c_past c_known gg6 gg7 vv8 j_at j_past j_known gg10 x_cb x_ct x_chalked x_traced)) C V 25 1 rfl rfl hh11 egg10 rfl dX4_keep_28 ?_
      refine tg_aload_n C dX4_keep_29 rfl 0 rfl ?_
      refine tg_get (v := .ref c0) C cfX4 0 rfl 5 (by decide) wm_244 rfl dX4_keep_30 ?_
      obtain ⟨rr12, ee13, hs⟩ := tg_b1_e hs
      refine tg_pV (As := []) (rest := []) C hl0 (kX1_whoMoves l D c0 c1 c2 t0 t1 t2 c_at c_past c_known t_pips t_many t_berths t_goal rr12 ee13) wm_489 meX1_whoMoves (by decide) [15, 16, 17, 2, 3, 4] rfl (by decide) rfl rfl rfl rfl (Nat.le_of_ble_eq_true rfl) dX4_keep_33 ?_
      obtain ⟨rfl, rfl, rfl, rfl, rfl, rfl, rfl, rfl⟩ := tg_i8 hs
      exact tg_iret hE rfl dX4_keep_36
    · have hs := tg_f hh4 hs
      by_cases hh5 : p1 = 1
      · have hs := tg_t hh5 hs
        refine tg_aald (b := j0) C 18 3 rfl rfl (by rw [hh5]; exact tg_vin (by decide)) (by rw [hh5]; rfl) dX4_keep_14 ?_
        refine tg_aload_n C dX4_keep_15 rfl 0 rfl ?_
        refine tg_get (v := .ref c0) C cfX4 0 rfl 5 (by decide) wm_244 rfl dX4_keep_16 ?_
        obtain ⟨gg14, gg15, vv16, ee17, hs⟩ := tg_b3_e hs
        refine tg_eV (ws' := (tw_X D h0 x0 t0 t1 t2 r0 e0 e1 e2 rt z0 b0 b1 b2 b3 b4 c0 c1 c2 m0 i0 i1 i2 j0 j1 j2 k0 k1 k2 x_text x_typed t_pips t_many t_berths t_goal r_fault r_length r_kind r_start r_next r_number r_dice r_bt r_gt d_pips d_many d_berths d_goal a_shown a_calm a_windy a_turns a_many a_ever c_at c_past c_known i_at i_past i_known gg14 gg15 vv16 x_kept x_cb x_ct x_chalked x_traced)) (As := [.ref c0]) (rest := []) C V hl0 (kX1_becomes l D j0 j1 j2 c0 c1 c2 t0 j_at j_past j_known c_at c_past c_known gg14 gg15 vv16 ee17) wm_675 meX1_becomes (by decide) [22, 23, 24, 15, 16, 17] rfl (by decide) rfl rfl rfl rfl (Nat.le_of_ble_eq_true rfl) rfl rfl rfl dX4_keep_19 ?_
        refine tg_aload_n C dX4_keep_22 rfl 0 rfl ?_
        refine tg_get (v := .ref k0) C cfX4 0 rfl 7 (by decide) wm_246 rfl dX4_keep_23 ?_
        refine tg_iload_n C dX4_keep_26 rfl 1 rfl ?_
        refine tg_iconst (v := 1) C dX4_keep_27 (by decide) ?_
        obtain ⟨hh19, hs⟩ := tg_ck_e hs
        obtain ⟨gg18, egg18, hs⟩ := tg_nm_e hs
        refine tg_zast (ws' := (tw_X D h0 x0 t0 t1 t2 r0 e0 e1 e2 rt z0 b0 b1 b2 b3 b4 c0 c1 c2 m0 i0 i1 i2 j0 j1 j2 k0 k1 k2 x_text x_typed t_pips t_many t_berths t_goal r_fault r_length r_kind r_start r_next r_number r_dice r_bt r_gt d_pips d_many d_berths d_goal a_shown a_calm a_windy a_turns a_many a_ever c_at c_past c_known i_at i_past i_known gg14 gg15 vv16 gg18 x_cb x_ct x_chalked x_traced)) C V 25 1 rfl rfl hh19 egg18 rfl dX4_keep_28 ?_
        refine tg_aload_n C dX4_keep_29 rfl 0 rfl ?_
        refine tg_get (v := .ref c0) C cfX4 0 rfl 5 (by decide) wm_244 rfl dX4_keep_30 ?_
        obtain ⟨rr20, ee21, hs⟩ := tg_b1_e hs
        refine tg_pV (As := []) (rest := []) C hl0 (kX1_whoMoves l D c0 c1 c2 t0 t1 t2 c_at c_past c_known t_pips t_many t_berths t_goal rr20 ee21) wm_489 meX1_whoMoves (by decide) [15, 16, 17, 2, 3, 4] rfl (by decide) rfl rfl rfl rfl (Nat.le_of_ble_eq_true rfl) dX4_keep_33 ?_
        obtain ⟨rfl, rfl, rfl, rfl, rfl, rfl, rfl, rfl⟩ := tg_i8 hs
        exact tg_iret hE rfl dX4_keep_36
      · have hs := tg_f hh5 hs
        cases hs
  · have hs := tg_nf cc3 hs
    refine tg_iconst (v := (-1)) C dX4_keep_7 (by decide) ?_
    obtain ⟨rfl, rfl, rfl, rfl, rfl, rfl, rfl, rfl⟩ := tg_i8 hs
    exact tg_iret hE rfl dX4_keep_8
set_option maxHeartbeats 2000000 in
set_option maxRecDepth 20000 in
theorem kX4_keep (l : Launch) (D : tg_D) (h0 x0 t0 t1 t2 r0 e0 e1 e2 rt z0 b0 b1 b2 b3 b4 c0 c1 c2 m0 i0 i1 i2 j0 j1 j2 k0 k1 k2 : Nat) (x_text : Nat → Int32) (x_typed : Int32) (t_pips : Nat → Int32) (t_many : Nat → Int32) (t_berths : Int32) (t_goal : Int32) (r_fault : Int32) (r_length : Int32) (r_kind : Int32) (r_start : Int32) (r_next : Int32) (r_number : Int32) (r_dice : Int32) (r_bt : Int32) (r_gt : Int32) (d_pips : Nat → Int32) (d_many : Nat → Int32) (d_berths : Int32) (d_goal : Int32) (a_shown : Nat → Int32) (a_calm : Nat → Int32) (a_windy : Nat → Int32) (a_turns : Nat → Int32) (a_many : Int32) (a_ever : Int32) (c_at : Nat → Int32) (c_past : Nat → Int32) (c_known : Int32) (i_at : Nat → Int32) (i_past : Nat → Int32) (i_known : Int32) (j_at : Nat → Int32) (j_past : Nat → Int32) (j_known : Int32) (x_kept : Nat → Int32) (x_cb : Nat → Int32) (x_ct : Nat → Int32) (x_chalked : Int32) (x_traced : Int64) (p1 : Int32) (r : Int32) (q_i_at : Nat → Int32) (q_i_past : Nat → Int32) (q_i_known : Int32) (q_j_at : Nat → Int32) (q_j_past : Nat → Int32) (q_j_known : Int32) (q_x_kept : Nat → Int32) (hs : fX4_keep t_goal c_at c_past c_known i_at i_past i_known j_at j_past j_known x_kept p1 = some (r, q_i_at, q_i_past, q_i_known, q_j_at, q_j_past, q_j_known, q_x_kept)) : Met l yX4_keep [Cond.code yX4_keep cX4_keep 2 (some .int)] (tg_rm 3 62) (tg_Pre D (tw_X D h0 x0 t0 t1 t2 r0 e0 e1 e2 rt z0 b0 b1 b2 b3 b4 c0 c1 c2 m0 i0 i1 i2 j0 j1 j2 k0 k1 k2 x_text x_typed t_pips t_many t_berths t_goal r_fault r_length r_kind r_start r_next r_number r_dice r_bt r_gt d_pips d_many d_berths d_goal a_shown a_calm a_windy a_turns a_many a_ever c_at c_past c_known i_at i_past i_known j_at j_past j_known x_kept x_cb x_ct x_chalked x_traced) [.ref h0, .int p1]) (tg_Qe (some (.int r)) D (tw_X D h0 x0 t0 t1 t2 r0 e0 e1 e2 rt z0 b0 b1 b2 b3 b4 c0 c1 c2 m0 i0 i1 i2 j0 j1 j2 k0 k1 k2 x_text x_typed t_pips t_many t_berths t_goal r_fault r_length r_kind r_start r_next r_number r_dice r_bt r_gt d_pips d_many d_berths d_goal a_shown a_calm a_windy a_turns a_many a_ever c_at c_past c_known q_i_at q_i_past q_i_known q_j_at q_j_past q_j_known q_x_kept x_cb x_ct x_chalked x_traced) (tg_Ad (tw_X D h0 x0 t0 t1 t2 r0 e0 e1 e2 rt z0 b0 b1 b2 b3 b4 c0 c1 c2 m0 i0 i1 i2 j0 j1 j2 k0 k1 k2 x_text x_typed t_pips t_many t_berths t_goal r_fault r_length r_kind r_start r_next r_number r_dice r_bt r_gt d_pips d_many d_berths d_goal a_shown a_calm a_windy a_turns a_many a_ever c_at c_past c_known i_at i_past i_known j_at j_past j_known x_kept x_cb x_ct x_chalked x_traced))) 0 0 (tg_Ad (tw_X D h0 x0 t0 t1 t2 r0 e0 e1 e2 rt z0 b0 b1 b2 b3 b4 c0 c1 c2 m0 i0 i1 i2 j0 j1 j2 k0 k1 k2 x_text x_typed t_pips t_many t_berths t_goal r_fault r_length r_kind r_start r_next r_number r_dice r_bt r_gt d_pips d_many d_berths d_goal a_shown a_calm a_windy a_turns a_many a_ever c_at c_past c_known i_at i_past i_known j_at j_past j_known x_kept x_cb x_ct x_chalked x_traced)) := tg_metEi (by decide) (Nat.le_of_ble_eq_true rfl) (fun X hl0 C V hE => vX4_keep l D h0 x0 t0 t1 t2 r0 e0 e1 e2 rt z0 b0 b1 b2 b3 b4 c0 c1 c2 m0 i0 i1 i2 j0 j1 j2 k0 k1 k2 x_text x_typed t_pips t_many t_berths t_goal r_fault r_length r_kind r_start r_next r_number r_dice r_bt r_gt d_pips d_many d_berths d_goal a_shown a_calm a_windy a_turns a_many a_ever c_at c_past c_known i_at i_past i_known j_at j_past j_known x_kept x_cb x_ct x_chalked x_traced p1 X hl0 C V r q_i_at q_i_past q_i_known q_j_at q_j_past q_j_known q_x_kept hs hE)
def fX4_back (t_goal : Int32) (c_at : Nat → Int32) (c_past : Nat → Int32) (c_known : Int32) (i_at : Nat → Int32) (i_past : Nat → Int32) (i_known : Int32) (j_at : Nat → Int32) (j_past : Nat → Int32) (j_known : Int32) (x_kept : Nat → Int32) (p1 : Int32) : Option (Int32 × (Nat → Int32) × (Nat → Int32) × Int32) := tg_b1 (fX4_isImage p1) fun rr1 => if ¬ rr1 = 0 then (tg_ck p1 2 <| if ¬ (x_kept (Int32.toNatClampNeg p1)) = 0 then (if p1 = 0 then (tg_b3 (fX1_becomes c_at c_past i_at i_past i_known) fun gg8 gg9 vv10 => tg_b1 (fX1_whoMoves gg8 t_goal) fun rr12 => some (rr12, gg8, gg9, vv10)) else if p1 = 1 then (tg_b3 (fX1_becomes c_at c_past j_at j_past j_known) fun gg14 gg15 vv16 => tg_b1 (fX1_whoMoves gg14 t_goal) fun rr18 => some (rr18, gg14, gg15, vv16)) else none) else (some ((-2), c_at, c_past, c_known))) else (some ((-1), c_at, c_past, c_known))
set_option maxHeartbeats 2000000 in
set_option maxRecDepth 20000 in
theorem vX4_back (l : Launch) (D : tg_D) (h0 x0 t0 t1 t2 r0 e0 e1 e2 rt z0 b0 b1 b2 b3 b4 c0 c1 c2 m0 i0 i1 i2 j0 j1 j2 k0 k1 k2 : Nat) (x_text : Nat → Int32) (x_typed : Int32) (t_pips : Nat → Int32) (t_many : Nat → Int32) (t_berths : Int32) (t_goal : Int32) (r_fault : Int32) (r_length : Int32) (r_kind : Int32) (r_start : Int32) (r_next : Int32) (r_number : Int32) (r_dice : Int32) (r_bt : Int32) (r_gt : Int32) (d_pips : Nat → Int32) (d_many : Nat → Int32) (d_berths : Int32) (d_goal : Int32) (a_shown : Nat → Int32) (a_calm : Nat → Int32) (a_windy : Nat → Int32) (a_turns : Nat → Int32) (a_many : Int32) (a_ever : Int32) (c_at : Nat → Int32) (c_past : Nat → Int32) (c_known : Int32) (i_at : Nat → Int32) (i_past : Nat → Int32) (i_known : Int32) (j_at : Nat → Int32) (j_past : Nat → Int32) (j_known : Int32) (x_kept : Nat → Int32) (x_cb : Nat → Int32) (x_ct : Nat → Int32) (x_chalked : Int32) (x_traced : Int64) (p1 : Int32) (X : tg_X) (hl0 : tg_l X = l) (C : tg_C X D 2 cX4_back RX4 3 62 0 0) (V : tg_V X) (r : Int32) (q_c_at : Nat → Int32) (q_c_past : Nat → Int32) (q_c_known : Int32) (hs : fX4_back t_goal c_at c_past c_known i_at i_past i_known j_at j_past j_known x_kept p1 = some (r, q_c_at, q_c_past, q_c_known)) (hE : tg_Ei X D 0 0 cX4_back .int r (tw_X D h0 x0 t0 t1 t2 r0 e0 e1 e2 rt z0 b0 b1 b2 b3 b4 c0 c1 c2 m0 i0 i1 i2 j0 j1 j2 k0 k1 k2 x_text x_typed t_pips t_many t_berths t_goal r_fault r_length r_kind r_start r_next r_number r_dice r_bt r_gt d_pips d_many d_berths d_goal a_shown a_calm a_windy a_turns a_many a_ever q_c_at q_c_past q_c_known i_at i_past i_known j_at j_past j_known x_kept x_cb x_ct x_chalked x_traced)) : tg_G X D 2 0 0 (tw_X D h0 x0 t0 t1 t2 r0 e0 e1 e2 rt z0 b0 b1 b2 b3 b4 c0 c1 c2 m0 i0 i1 i2 j0 j1 j2 k0 k1 k2 x_text x_typed t_pips t_many t_berths t_goal r_fault r_length r_kind r_start r_next r_number r_dice r_bt r_gt d_pips d_many d_berths d_goal a_shown a_calm a_windy a_turns a_many a_ever c_at c_past c_known i_at i_past i_known j_at j_past j_known x_kept x_cb x_ct x_chalked x_traced) [(0, .ref h0), (1, .int p1)] 0 [] := by
  unfold fX4_back at hs
  refine tg_iload_n C dX4_back_0 rfl 1 rfl ?_
  obtain ⟨rr1, ee2, hs⟩ := tg_b1_e hs
  refine tg_pS (As := [.int p1]) (rest := []) C hl0 (kX4_isImage l D p1 rr1 ee2) wm_672 meX4_isImage (by decide) rfl rfl (Nat.le_of_ble_eq_true rfl) dX4_back_1 ?_
  refine tg_if_ne (tgt := 9) C dX4_back_4 (by decide) (fun cc3 => ?_) (fun cc3 => ?_)
  · have hs := tg_t cc3 hs
    refine tg_aload_n C dX4_back_9 rfl 0 rfl ?_
    refine tg_get (v := .ref k0) C cfX4 0 rfl 7 (by decide) wm_246 rfl dX4_back_10 ?_
    refine tg_iload_n C dX4_back_13 rfl 1 rfl ?_
    obtain ⟨hh4, hs⟩ := tg_ck_e hs
    refine tg_zald C 25 1 rfl rfl hh4 dX4_back_14 ?_
    refine tg_if_ne (tgt := 21) C dX4_back_15 (by decide) (fun cc5 => ?_) (fun cc5 => ?_)
    · have hs := tg_t cc5 hs
      refine tg_aload_n C dX4_back_21 rfl 0 rfl ?_
      refine tg_get (v := .ref c0) C cfX4 0 rfl 5 (by decide) wm_244 rfl dX4_back_22 ?_
      refine tg_aload_n C dX4_back_25 rfl 0 rfl ?_
      refine tg_get (v := .ref m0) C cfX4 0 rfl 6 (by decide) wm_245 rfl dX4_back_26 ?_
      refine tg_iload_n C dX4_back_29 rfl 1 rfl ?_
      by_cases hh6 : p1 = 0
      · have hs := tg_t hh6 hs
        refine tg_aald (b := i0) C 18 3 rfl rfl (by rw [hh6]; exact tg_vin (by decide)) (by rw [hh6]; rfl) dX4_back_30 ?_
        obtain ⟨gg8, gg9, vv10, ee11, hs⟩ := tg_b3_e hs
        refine tg_eV (ws' := (tw_X D h0 x0 t0 t1 t2 r0 e0 e1 e2 rt z0 b0 b1 b2 b3 b4 c0 c1 c2 m0 i0 i1 i2 j0 j1 j2 k0 k1 k2 x_text x_typed t_pips t_many t_berths t_goal r_fault r_length r_kind r_start r_next r_number r_dice r_bt r_gt d_pips d_many d_berths d_goal a_shown a_calm a_windy a_turns a_many a_ever gg8 gg9 vv10 i_at i_past i_known j_at j_past j_known x_kept x_cb x_ct x_chalked x_traced)) (As := [.ref i0]) (rest := []) C V hl0 (kX1_becomes l D c0 c1 c2 i0 i1 i2 t0 c_at c_past c_known i_at i_past i_known gg8 gg9 vv10 ee11) wm_675 meX1_becomes (by decide) [15, 16, 17, 19, 20, 21] rfl (by decide) rfl rfl rfl rfl (Nat.le_of_ble_eq_true rfl) rfl rfl rfl dX4_back_31 ?_
        refine tg_aload_n C dX4_back_34 rfl 0 rfl ?_
        refine tg_get (v := .ref c0) C cfX4 0 rfl 5 (by decide) wm_244 rfl dX4_back_35 ?_
        obtain ⟨rr12, ee13, hs⟩ := tg_b1_e hs
        refine tg_pV (As := []) (rest := []) C hl0 (kX1_whoMoves l D c0 c1 c2 t0 t1 t2 gg8 gg9 vv10 t_pips t_many t_berths t_goal rr12 ee13) wm_489 meX1_whoMoves (by decide) [15, 16, 17, 2, 3, 4] rfl (by decide) rfl rfl rfl rfl (Nat.le_of_ble_eq_true rfl) dX4_back_38 ?_
        obtain ⟨rfl, rfl, rfl, rfl⟩ := tg_i4 hs
        exact tg_iret hE rfl dX4_back_41
      · have hs := tg_f hh6 hs
        by_cases hh7 : p1 = 1
        · have hs := tg_t hh7 hs
          refine tg_aald (b := j0) C 18 3 rfl rfl (by rw [hh7]; exact tg_vin (by decide)) (by rw [hh7]; rfl) dX4_back_30 ?_
          obtain ⟨gg14, gg15, vv16, ee17, hs⟩ := tg_b3_e hs
          refine tg_eV (ws' := (tw_X D h0 x0 t0 t1 t2 r0 e0 e1 e2 rt z0 b0 b1 b2 b3 b4 c0 c1 c2 m0 i0 i1 i2 j0 j1 j2 k0 k1 k2 x_text x_typed t_pips t_many t_berths t_goal r_fault r_length r_kind r_start r_next r_number r_dice r_bt r_gt d_pips d_many d_berths d_goal a_shown a_calm a_windy a_turns a_many a_ever gg14 gg15 vv16 i_at i_past i_known j_at j_past j_known x_kept x_cb x_ct x_chalked x_traced)) (As := [.ref j0]) (rest := []) C V hl0 (kX1_becomes l D c0 c1 c2 j0 j1 j2 t0 c_at c_past c_known j_at j_past j_known gg14 gg15 vv16 ee17) wm_675 meX1_becomes (by decide) [15, 16, 17, 22, 23, 24] rfl (by decide) rfl rfl rfl rfl (Nat.le_of_ble_eq_true rfl) rfl rfl rfl dX4_back_31 ?_
          refine tg_aload_n C dX4_back_34 rfl 0 rfl ?_
          refine tg_get (v := .ref c0) C cfX4 0 rfl 5 (by decide) wm_244 rfl dX4_back_35 ?_
          obtain ⟨rr18, ee19, hs⟩ := tg_b1_e hs
          refine tg_pV (As := []) (rest := []) C hl0 (kX1_whoMoves l D c0 c1 c2 t0 t1 t2 gg14 gg15 vv16 t_pips t_many t_berths t_goal rr18 ee19) wm_489 meX1_whoMoves (by decide) [15, 16, 17, 2, 3, 4] rfl (by decide) rfl rfl rfl rfl (Nat.le_of_ble_eq_true rfl) dX4_back_38 ?_
          obtain ⟨rfl, rfl, rfl, rfl⟩ := tg_i4 hs
          exact tg_iret hE rfl dX4_back_41
        · have hs := tg_f hh7 hs
          cases hs
    · have hs := tg_nf cc5 hs
      refine tg_bipush (v := (-2)) C dX4_back_18 (by decide) ?_
      obtain ⟨rfl, rfl, rfl, rfl⟩ := tg_i4 hs
      exact tg_iret hE rfl dX4_back_20
  · have hs := tg_nf cc3 hs
    refine tg_iconst (v := (-1)) C dX4_back_7 (by decide) ?_
    obtain ⟨rfl, rfl, rfl, rfl⟩ := tg_i4 hs
    exact tg_iret hE rfl dX4_back_8
set_option maxHeartbeats 2000000 in
set_option maxRecDepth 20000 in
theorem kX4_back (l : Launch) (D : tg_D) (h0 x0 t0 t1 t2 r0 e0 e1 e2 rt z0 b0 b1 b2 b3 b4 c0 c1 c2 m0 i0 i1 i2 j0 j1 j2 k0 k1 k2 : Nat) (x_text : Nat → Int32) (x_typed : Int32) (t_pips : Nat → Int32) (t_many : Nat → Int32) (t_berths : Int32) (t_goal : Int32) (r_fault : Int32) (r_length : Int32) (r_kind : Int32) (r_start : Int32) (r_next : Int32) (r_number : Int32) (r_dice : Int32) (r_bt : Int32) (r_gt : Int32) (d_pips : Nat → Int32) (d_many : Nat → Int32) (d_berths : Int32) (d_goal : Int32) (a_shown : Nat → Int32) (a_calm : Nat → Int32) (a_windy : Nat → Int32) (a_turns : Nat → Int32) (a_many : Int32) (a_ever : Int32) (c_at : Nat → Int32) (c_past : Nat → Int32) (c_known : Int32) (i_at : Nat → Int32) (i_past : Nat → Int32) (i_known : Int32) (j_at : Nat → Int32) (j_past : Nat → Int32) (j_known : Int32) (x_kept : Nat → Int32) (x_cb : Nat → Int32) (x_ct : Nat → Int32) (x_chalked : Int32) (x_traced : Int64) (p1 : Int32) (r : Int32) (q_c_at : Nat → Int32) (q_c_past : Nat → Int32) (q_c_known : Int32) (hs : fX4_back t_goal c_at c_past c_known i_at i_past i_known j_at j_past j_known x_kept p1 = some (r, q_c_at, q_c_past, q_c_known)) : Met l yX4_back [Cond.code yX4_back cX4_back 2 (some .int)] (tg_rm 3 62) (tg_Pre D (tw_X D h0 x0 t0 t1 t2 r0 e0 e1 e2 rt z0 b0 b1 b2 b3 b4 c0 c1 c2 m0 i0 i1 i2 j0 j1 j2 k0 k1 k2 x_text x_typed t_pips t_many t_berths t_goal r_fault r_length r_kind r_start r_next r_number r_dice r_bt r_gt d_pips d_many d_berths d_goal a_shown a_calm a_windy a_turns a_many a_ever c_at c_past c_known i_at i_past i_known j_at j_past j_known x_kept x_cb x_ct x_chalked x_traced) [.ref h0, .int p1]) (tg_Qe (some (.int r)) D (tw_X D h0 x0 t0 t1 t2 r0 e0 e1 e2 rt z0 b0 b1 b2 b3 b4 c0 c1 c2 m0 i0 i1 i2 j0 j1 j2 k0 k1 k2 x_text x_typed t_pips t_many t_berths t_goal r_fault r_length r_kind r_start r_next r_number r_dice r_bt r_gt d_pips d_many d_berths d_goal a_shown a_calm a_windy a_turns a_many a_ever q_c_at q_c_past q_c_known i_at i_past i_known j_at j_past j_known x_kept x_cb x_ct x_chalked x_traced) (tg_Ad (tw_X D h0 x0 t0 t1 t2 r0 e0 e1 e2 rt z0 b0 b1 b2 b3 b4 c0 c1 c2 m0 i0 i1 i2 j0 j1 j2 k0 k1 k2 x_text x_typed t_pips t_many t_berths t_goal r_fault r_length r_kind r_start r_next r_number r_dice r_bt r_gt d_pips d_many d_berths d_goal a_shown a_calm a_windy a_turns a_many a_ever c_at c_past c_known i_at i_past i_known j_at j_past j_known x_kept x_cb x_ct x_chalked x_traced))) 0 0 (tg_Ad (tw_X D h0 x0 t0 t1 t2 r0 e0 e1 e2 rt z0 b0 b1 b2 b3 b4 c0 c1 c2 m0 i0 i1 i2 j0 j1 j2 k0 k1 k2 x_text x_typed t_pips t_many t_berths t_goal r_fault r_length r_kind r_start r_next r_number r_dice r_bt r_gt d_pips d_many d_berths d_goal a_shown a_calm a_windy a_turns a_many a_ever c_at c_past c_known i_at i_past i_known j_at j_past j_known x_kept x_cb x_ct x_chalked x_traced)) := tg_metEi (by decide) (Nat.le_of_ble_eq_true rfl) (fun X hl0 C V hE => vX4_back l D h0 x0 t0 t1 t2 r0 e0 e1 e2 rt z0 b0 b1 b2 b3 b4 c0 c1 c2 m0 i0 i1 i2 j0 j1 j2 k0 k1 k2 x_text x_typed t_pips t_many t_berths t_goal r_fault r_length r_kind r_start r_next r_number r_dice r_bt r_gt d_pips d_many d_berths d_goal a_shown a_calm a_windy a_turns a_many a_ever c_at c_past c_known i_at i_past i_known j_at j_past j_known x_kept x_cb x_ct x_chalked x_traced p1 X hl0 C V r q_c_at q_c_past q_c_known hs hE)
def fX4_count (x_typed : Int32) (t_berths : Int32) (t_goal : Int32) (a_many : Int32) (c_known : Int32) (x_chalked : Int32) (p1 : Int32) : Option (Int32) := if p1 = 0 then (some t_berths) else (if p1 = 1 then (some t_goal) else (if p1 = 2 then (some a_many) else (if p1 = 3 then (some x_chalked) else (if p1 = 4 then (some c_known) else (if p1 = 5 then (some x_typed) else (some (-1)))))))
set_option maxHeartbeats 2000000 in
set_option maxRecDepth 20000 in
theorem vX4_count (l : Launch) (D : tg_D) (h0 x0 t0 t1 t2 r0 e0 e1 e2 rt z0 b0 b1 b2 b3 b4 c0 c1 c2 m0 i0 i1 i2 j0 j1 j2 k0 k1 k2 : Nat) (x_text : Nat → Int32) (x_typed : Int32) (t_pips : Nat → Int32) (t_many : Nat → Int32) (t_berths : Int32) (t_goal : Int32) (r_fault : Int32) (r_length : Int32) (r_kind : Int32) (r_start : Int32) (r_next : Int32) (r_number : Int32) (r_dice : Int32) (r_bt : Int32) (r_gt : Int32) (d_pips : Nat → Int32) (d_many : Nat → Int32) (d_berths : Int32) (d_goal : Int32) (a_shown : Nat → Int32) (a_calm : Nat → Int32) (a_windy : Nat → Int32) (a_turns : Nat → Int32) (a_many : Int32) (a_ever : Int32) (c_at : Nat → Int32) (c_past : Nat → Int32) (c_known : Int32) (i_at : Nat → Int32) (i_past : Nat → Int32) (i_known : Int32) (j_at : Nat → Int32) (j_past : Nat → Int32) (j_known : Int32) (x_kept : Nat → Int32) (x_cb : Nat → Int32) (x_ct : Nat → Int32) (x_chalked : Int32) (x_traced : Int64) (p1 : Int32) (X : tg_X) (hl0 : tg_l X = l) (C : tg_C X D 2 cX4_count RX4 0 0 0 0) (r : Int32) (hs : fX4_count x_typed t_berths t_goal a_many c_known x_chalked p1 = some r) (hE : tg_Ei X D 0 0 cX4_count .int r (tw_X D h0 x0 t0 t1 t2 r0 e0 e1 e2 rt z0 b0 b1 b2 b3 b4 c0 c1 c2 m0 i0 i1 i2 j0 j1 j2 k0 k1 k2 x_text x_typed t_pips t_many t_berths t_goal r_fault r_length r_kind r_start r_next r_number r_dice r_bt r_gt d_pips d_many d_berths d_goal a_shown a_calm a_windy a_turns a_many a_ever c_at c_past c_known i_at i_past i_known j_at j_past j_known x_kept x_cb x_ct x_chalked x_traced)) : tg_G X D 2 0 0 (tw_X D h0 x0 t0 t1 t2 r0 e0 e1 e2 rt z0 b0 b1 b2 b3 b4 c0 c1 c2 m0 i0 i1 i2 j0 j1 j2 k0 k1 k2 x_text x_typed t_pips t_many t_berths t_goal r_fault r_length r_kind r_start r_next r_number r_dice r_bt r_gt d_pips d_many d_berths d_goal a_shown a_calm a_windy a_turns a_many a_ever c_at c_past c_known i_at i_past i_known j_at j_past j_known x_kept x_cb x_ct x_chalked x_traced) [(0, .ref h0), (1, .int p1)] 0 [] := by
  unfold fX4_count at hs
  refine tg_iload_n C dX4_count_0 rfl 1 rfl ?_
  by_cases ss1 : p1 = 0
  · have hs := tg_t ss1 hs
    refine tg_swIn (off := 39) (tgt := 40) C 0 ss1 dX4_count_1 (by decide) (by decide) ?_
    refine tg_aload_n C dX4_count_40 rfl 0 rfl ?_
    refine tg_get (v := .ref t0) C cfX4 0 rfl 2 (by decide) wm_241 rfl dX4_count_41 ?_
    refine tg_get (v := .int t_berths) C cfX3 2 rfl 2 (by decide) wm_97 rfl dX4_count_44 ?_
    obtain rfl := Option.some.inj hs
    exact tg_iret hE rfl dX4_count_47
  · have hs := tg_f ss1 hs
    by_cases ss2 : p1 = 1
    · have hs := tg_t ss2 hs
      refine tg_swIn (off := 47) (tgt := 48) C 1 ss2 dX4_count_1 (by decide) (by decide) ?_
      refine tg_aload_n C dX4_count_48 rfl 0 rfl ?_
      refine tg_get (v := .ref t0) C cfX4 0 rfl 2 (by decide) wm_241 rfl dX4_count_49 ?_
      refine tg_get (v := .int t_goal) C cfX3 2 rfl 3 (by decide) wm_101 rfl dX4_count_52 ?_
      obtain rfl := Option.some.inj hs
      exact tg_iret hE rfl dX4_count_55
    · have hs := tg_f ss2 hs
      by_cases ss3 : p1 = 2
      · have hs := tg_t ss3 hs
        refine tg_swIn (off := 55) (tgt := 56) C 2 ss3 dX4_count_1 (by decide) (by decide) ?_
        refine tg_aload_n C dX4_count_56 rfl 0 rfl ?_
        refine tg_get (v := .ref b0) C cfX4 0 rfl 4 (by decide) wm_243 rfl dX4_count_57 ?_
        refine tg_get (v := .int a_many) C cfX0 10 rfl 4 (by decide) wm_168 rfl dX4_count_60 ?_
        obtain rfl := Option.some.inj hs
        exact tg_iret hE rfl dX4_count_63
      · have hs := tg_f ss3 hs
        by_cases ss4 : p1 = 3
        · have hs := tg_t ss4 hs
          refine tg_swIn (off := 63) (tgt := 64) C 3 ss4 dX4_count_1 (by decide) (by decide) ?_
          refine tg_aload_n C dX4_count_64 rfl 0 rfl ?_
          refine tg_get (v := .int x_chalked) C cfX4 0 rfl 10 (by decide) wm_249 rfl dX4_count_65 ?_
          obtain rfl := Option.some.inj hs
          exact tg_iret hE rfl dX4_count_68
        · have hs := tg_f ss4 hs
          by_cases ss5 : p1 = 4
          · have hs := tg_t ss5 hs
            refine tg_swIn (off := 68) (tgt := 69) C 4 ss5 dX4_count_1 (by decide) (by decide) ?_
            refine tg_aload_n C dX4_count_69 rfl 0 rfl ?_
            refine tg_get (v := .ref c0) C cfX4 0 rfl 5 (by decide) wm_244 rfl dX4_count_70 ?_
            refine tg_get (v := .int c_known) C cfX1 15 rfl 3 (by decide) wm_199 rfl dX4_count_73 ?_
            obtain rfl := Option.some.inj hs
            exact tg_iret hE rfl dX4_count_76
          · have hs := tg_f ss5 hs
            by_cases ss6 : p1 = 5
            · have hs := tg_t ss6 hs
              refine tg_swIn (off := 76) (tgt := 77) C 5 ss6 dX4_count_1 (by decide) (by decide) ?_
              refine tg_aload_n C dX4_count_77 rfl 0 rfl ?_
              refine tg_get (v := .int x_typed) C cfX4 0 rfl 1 (by decide) wm_240 rfl dX4_count_78 ?_
              obtain rfl := Option.some.inj hs
              exact tg_iret hE rfl dX4_count_81
            · have hs := tg_f ss6 hs
              refine tg_swOut (tgt := 82) C (by have a0 := lv_neT (a := 0) ss1 rfl; have a1 := lv_neT (a := 1) ss2 rfl; have a2 := lv_neT (a := 2) ss3 rfl; have a3 := lv_neT (a := 3) ss4 rfl; have a4 := lv_neT (a := 4) ss5 rfl; have a5 := lv_neT (a := 5) ss6 rfl; omega) dX4_count_1 (by decide) ?_
              refine tg_iconst (v := (-1)) C dX4_count_82 (by decide) ?_
              obtain rfl := Option.some.inj hs
              exact tg_iret hE rfl dX4_count_83
set_option maxHeartbeats 2000000 in
set_option maxRecDepth 20000 in
theorem kX4_count (l : Launch) (D : tg_D) (h0 x0 t0 t1 t2 r0 e0 e1 e2 rt z0 b0 b1 b2 b3 b4 c0 c1 c2 m0 i0 i1 i2 j0 j1 j2 k0 k1 k2 : Nat) (x_text : Nat → Int32) (x_typed : Int32) (t_pips : Nat → Int32) (t_many : Nat → Int32) (t_berths : Int32) (t_goal : Int32) (r_fault : Int32) (r_length : Int32) (r_kind : Int32) (r_start : Int32) (r_next : Int32) (r_number : Int32) (r_dice : Int32) (r_bt : Int32) (r_gt : Int32) (d_pips : Nat → Int32) (d_many : Nat → Int32) (d_berths : Int32) (d_goal : Int32) (a_shown : Nat → Int32) (a_calm : Nat → Int32) (a_windy : Nat → Int32) (a_turns : Nat → Int32) (a_many : Int32) (a_ever : Int32) (c_at : Nat → Int32) (c_past : Nat → Int32) (c_known : Int32) (i_at : Nat → Int32) (i_past : Nat → Int32) (i_known : Int32) (j_at : Nat → Int32) (j_past : Nat → Int32) (j_known : Int32) (x_kept : Nat → Int32) (x_cb : Nat → Int32) (x_ct : Nat → Int32) (x_chalked : Int32) (x_traced : Int64) (p1 : Int32) (r : Int32) (hs : fX4_count x_typed t_berths t_goal a_many c_known x_chalked p1 = some r) : Met l yX4_count [Cond.code yX4_count cX4_count 2 (some .int)] (tg_rm 0 0) (tg_Pre D (tw_X D h0 x0 t0 t1 t2 r0 e0 e1 e2 rt z0 b0 b1 b2 b3 b4 c0 c1 c2 m0 i0 i1 i2 j0 j1 j2 k0 k1 k2 x_text x_typed t_pips t_many t_berths t_goal r_fault r_length r_kind r_start r_next r_number r_dice r_bt r_gt d_pips d_many d_berths d_goal a_shown a_calm a_windy a_turns a_many a_ever c_at c_past c_known i_at i_past i_known j_at j_past j_known x_kept x_cb x_ct x_chalked x_traced) [.ref h0, .int p1]) (vp_Si (fun r' => r' = r)) 0 0 (fun _ => False) := tg_metI (by decide) (Nat.le_of_ble_eq_true rfl) (fun X hl0 C hE => vX4_count l D h0 x0 t0 t1 t2 r0 e0 e1 e2 rt z0 b0 b1 b2 b3 b4 c0 c1 c2 m0 i0 i1 i2 j0 j1 j2 k0 k1 k2 x_text x_typed t_pips t_many t_berths t_goal r_fault r_length r_kind r_start r_next r_number r_dice r_bt r_gt d_pips d_many d_berths d_goal a_shown a_calm a_windy a_turns a_many a_ever c_at c_past c_known i_at i_past i_known j_at j_past j_known x_kept x_cb x_ct x_chalked x_traced p1 X hl0 C r hs hE)
