def fX4_type (x_text : Nat → Int32) (x_typed : Int32) (p1 : Int32) : Option (Int32 × (Nat → Int32) × Int32) := if p1 < 0 then (some ((-1), x_text, x_typed)) else (if p1 ≤ 255 then (if x_typed < 120 then (tg_nm ((Int32.toUInt32 p1 % 65536).toInt32) fun vv4 => tg_ck x_typed 120 <| tg_nm (upd x_text (Int32.toNatClampNeg x_typed) (vp_nar .char vv4)) fun gg5 => tg_nm (x_typed + 1) fun vv7 => some (vv7, gg5, vv7)) else (some ((-3), x_text, x_typed))) else (some ((-1), x_text, x_typed)))
set_option maxHeartbeats 2000000 in
set_option maxRecDepth 20000 in
theorem vX4_type (l : Launch) (D : tg_D) (h0 x0 t0 t1 t2 r0 e0 e1 e2 rt z0 b0 b1 b2 b3 b4 c0 c1 c2 m0 i0 i1 i2 j0 j1 j2 k0 k1 k2 : Nat) (x_text : Nat → Int32) (x_typed : Int32) (t_pips : Nat → Int32) (t_many : Nat → Int32) (t_berths : Int32) (t_goal : Int32) (r_fault : Int32) (r_length : Int32) (r_kind : Int32) (r_start : Int32) (r_next : Int32) (r_number : Int32) (r_dice : Int32) (r_bt : Int32) (r_gt : Int32) (d_pips : Nat → Int32) (d_many : Nat → Int32) (d_berths : Int32) (d_goal : Int32) (a_shown : Nat → Int32) (a_calm : Nat → Int32) (a_windy : Nat → Int32) (a_turns : Nat → Int32) (a_many : Int32) (a_ever : Int32) (c_at : Nat → Int32) (c_past : Nat → Int32) (c_known : Int32) (i_at : Nat → Int32) (i_past : Nat → Int32) (i_known : Int32) (j_at : Nat → Int32) (j_past : Nat → Int32) (j_known : Int32) (x_kept : Nat → Int32) (x_cb : Nat → Int32) (x_ct : Nat → Int32) (x_chalked : Int32) (x_traced : Int64) (p1 : Int32) (X : tg_X) (hl0 : tg_l X = l) (C : tg_C X D 2 cX4_type RX4 0 0 0 0) (V : tg_V X) (r : Int32) (q_x_text : Nat → Int32) (q_x_typed : Int32) (hs : fX4_type x_text x_typed p1 = some (r, q_x_text, q_x_typed)) (hE : tg_Ei X D 0 0 cX4_type .int r (tw_X D h0 x0 t0 t1 t2 r0 e0 e1 e2 rt z0 b0 b1 b2 b3 b4 c0 c1 c2 m0 i0 i1 i2 j0 j1 j2 k0 k1 k2 q_x_text q_x_typed t_pips t_many t_berths t_goal r_fault r_length r_kind r_start r_next r_number r_dice r_bt r_gt d_pips d_many d_berths d_goal a_shown a_calm a_windy a_turns a_many a_ever c_at c_past c_known i_at i_past i_known j_at j_past j_known x_kept x_cb x_ct x_chalked x_traced)) : tg_G X D 2 0 0 (tw_X D h0 x0 t0 t1 t2 r0 e0 e1 e2 rt z0 b0 b1 b2 b3 b4 c0 c1 c2 m0 i0 i1 i2 j0 j1 j2 k0 k1 k2 x_text x_typed t_pips t_many t_berths t_goal r_fault r_length r_kind r_start r_next r_number r_dice r_bt r_gt d_pips d_many d_berths d_goal a_shown a_calm a_windy a_turns a_many a_ever c_at c_past c_known i_at i_past i_known j_at j_past j_known x_kept x_cb x_ct x_chalked x_traced) [(0, .ref h0), (1, .int p1)] 0 [] := by
  unfold fX4_type at hs
  refine tg_iload_n C dX4_type_0 rfl 1 rfl ?_
  refine tg_if_lt (tgt := 11) C dX4_type_1 (by decide) (fun cc1 => ?_) (fun cc1 => ?_)
  · have hs := tg_t cc1 hs
    refine tg_iconst (v := (-1)) C dX4_type_11 (by decide) ?_
    obtain ⟨rfl, rfl, rfl⟩ := tg_i3 hs
    exact tg_iret hE rfl dX4_type_12
  · have hs := tg_f cc1 hs
    refine tg_iload_n C dX4_type_4 rfl 1 rfl ?_
    refine tg_sipush (v := 255) C dX4_type_5 (by decide) ?_
    refine tg_icmp_le (tgt := 13) C dX4_type_8 (by decide) (fun cc2 => ?_) (fun cc2 => ?_)
    · have hs := tg_t cc2 hs
      refine tg_aload_n C dX4_type_13 rfl 0 rfl ?_
      refine tg_get (v := .int x_typed) C cfX4 0 rfl 1 (by decide) wm_240 rfl dX4_type_14 ?_
      refine tg_bipush (v := 120) C dX4_type_17 (by decide) ?_
      refine tg_icmp_lt (tgt := 25) C dX4_type_19 (by decide) (fun cc3 => ?_) (fun cc3 => ?_)
      · have hs := tg_t cc3 hs
        refine tg_aload_n C dX4_type_25 rfl 0 rfl ?_
        refine tg_get (v := .ref x0) C cfX4 0 rfl 0 (by decide) wm_239 rfl dX4_type_26 ?_
        refine tg_aload_n C dX4_type_29 rfl 0 rfl ?_
        refine tg_get (v := .int x_typed) C cfX4 0 rfl 1 (by decide) wm_240 rfl dX4_type_30 ?_
        refine tg_iload_n C dX4_type_33 rfl 1 rfl ?_
        refine tg_i2c C dX4_type_34 ?_
        obtain ⟨vv4, evv4, hs⟩ := tg_nm_e hs
        refine tg_topi evv4 ?_
        obtain ⟨hh6, hs⟩ := tg_ck_e hs
        obtain ⟨gg5, egg5, hs⟩ := tg_nm_e hs
        refine tg_cast (ws' := (tw_X D h0 x0 t0 t1 t2 r0 e0 e1 e2 rt z0 b0 b1 b2 b3 b4 c0 c1 c2 m0 i0 i1 i2 j0 j1 j2 k0 k1 k2 gg5 x_typed t_pips t_many t_berths t_goal r_fault r_length r_kind r_start r_next r_number r_dice r_bt r_gt d_pips d_many d_berths d_goal a_shown a_calm a_windy a_turns a_many a_ever c_at c_past c_known i_at i_past i_known j_at j_past j_known x_kept x_cb x_ct x_chalked x_traced)) C V 1 2 rfl rfl hh6 egg5 rfl dX4_type_35 ?_
        refine tg_aload_n C dX4_type_36 rfl 0 rfl ?_
        refine tg_dup C dX4_type_37 rfl ?_
        refine tg_get (v := .int x_typed) C cfX4 0 rfl 1 (by decide) wm_240 rfl dX4_type_38 ?_
        refine tg_iconst (v := 1) C dX4_type_41 (by decide) ?_
        refine tg_iadd C dX4_type_42 ?_
        obtain ⟨vv7, evv7, hs⟩ := tg_nm_e hs
        refine tg_topi evv7 ?_
        refine tg_put (ws' := (tw_X D h0 x0 t0 t1 t2 r0 e0 e1 e2 rt z0 b0 b1 b2 b3 b4 c0 c1 c2 m0 i0 i1 i2 j0 j1 j2 k0 k1 k2 gg5 vv7 t_pips t_many t_berths t_goal r_fault r_length r_kind r_start r_next r_number r_dice r_bt r_gt d_pips d_many d_berths d_goal a_shown a_calm a_windy a_turns a_many a_ever c_at c_past c_known i_at i_past i_known j_at j_past j_known x_kept x_cb x_ct x_chalked x_traced)) C V cfX4 0 rfl 1 (by decide) wm_240 rfl rfl rfl (Nat.le_of_ble_eq_true rfl) rfl dX4_type_43 ?_
        refine tg_aload_n C dX4_type_46 rfl 0 rfl ?_
        refine tg_get (v := .int vv7) C cfX4 0 rfl 1 (by decide) wm_240 rfl dX4_type_47 ?_
        obtain ⟨rfl, rfl, rfl⟩ := tg_i3 hs
        exact tg_iret hE rfl dX4_type_50
      · have hs := tg_f cc3 hs
        refine tg_bipush (v := (-3)) C dX4_type_22 (by decide) ?_
        obtain ⟨rfl, rfl, rfl⟩ := tg_i3 hs
        exact tg_iret hE rfl dX4_type_24
    · have hs := tg_f cc2 hs
      refine tg_iconst (v := (-1)) C dX4_type_11 (by decide) ?_
      obtain ⟨rfl, rfl, rfl⟩ := tg_i3 hs
      exact tg_iret hE rfl dX4_type_12
set_option maxHeartbeats 2000000 in
set_option maxRecDepth 20000 in
theorem kX4_type (l : Launch) (D : tg_D) (h0 x0 t0 t1 t2 r0 e0 e1 e2 rt z0 b0 b1 b2 b3 b4 c0 c1 c2 m0 i0 i1 i2 j0 j1 j2 k0 k1 k2 : Nat) (x_text : Nat → Int32) (x_typed : Int32) (t_pips : Nat → Int32) (t_many : Nat → Int32) (t_berths : Int32) (t_goal : Int32) (r_fault : Int32) (r_length : Int32) (r_kind : Int32) (r_start : Int32) (r_next : Int32) (r_number : Int32) (r_dice : Int32) (r_bt : Int32) (r_gt : Int32) (d_pips : Nat → Int32) (d_many : Nat → Int32) (d_berths : Int32) (d_goal : Int32) (a_shown : Nat → Int32) (a_calm : Nat → Int32) (a_windy : Nat → Int32) (a_turns : Nat → Int32) (a_many : Int32) (a_ever : Int32) (c_at : Nat → Int32) (c_past : Nat → Int32) (c_known : Int32) (i_at : Nat → Int32) (i_past : Nat → Int32) (i_known : Int32) (j_at : Nat → Int32) (j_past : Nat → Int32) (j_known : Int32) (x_kept : Nat → Int32) (x_cb : Nat → Int32) (x_ct : Nat → Int32) (x_chalked : Int32) (x_traced : Int64) (p1 : Int32) (r : Int32) (q_x_text : Nat → Int32) (q_x_typed : Int32) (hs : fX4_type x_text x_typed p1 = some (r, q_x_text, q_x_typed)) : Met l yX4_type [Cond.code yX4_type cX4_type 2 (some .int)] (tg_rm 0 0) (tg_Pre D (tw_X D h0 x0 t0 t1 t2 r0 e0 e1 e2 rt z0 b0 b1 b2 b3 b4 c0 c1 c2 m0 i0 i1 i2 j0 j1 j2 k0 k1 k2 x_text x_typed t_pips t_many t_berths t_goal r_fault r_length r_kind r_start r_next r_number r_dice r_bt r_gt d_pips d_many d_berths d_goal a_shown a_calm a_windy a_turns a_many a_ever c_at c_past c_known i_at i_past i_known j_at j_past j_known x_kept x_cb x_ct x_chalked x_traced) [.ref h0, .int p1]) (tg_Qe (some (.int r)) D (tw_X D h0 x0 t0 t1 t2 r0 e0 e1 e2 rt z0 b0 b1 b2 b3 b4 c0 c1 c2 m0 i0 i1 i2 j0 j1 j2 k0 k1 k2 q_x_text q_x_typed t_pips t_many t_berths t_goal r_fault r_length r_kind r_start r_next r_number r_dice r_bt r_gt d_pips d_many d_berths d_goal a_shown a_calm a_windy a_turns a_many a_ever c_at c_past c_known i_at i_past i_known j_at j_past j_known x_kept x_cb x_ct x_chalked x_traced) (tg_Ad (tw_X D h0 x0 t0 t1 t2 r0 e0 e1 e2 rt z0 b0 b1 b2 b3 b4 c0 c1 c2 m0 i0 i1 i2 j0 j1 j2 k0 k1 k2 x_text x_typed t_pips t_many t_berths t_goal r_fault r_length r_kind r_start r_next r_number r_dice r_bt r_gt d_pips d_many d_berths d_goal a_shown a_calm a_windy a_turns a_many a_ever c_at c_past c_known i_at i_past i_known j_at j_past j_known x_kept x_cb x_ct x_chalked x_traced))) 0 0 (tg_Ad (tw_X D h0 x0 t0 t1 t2 r0 e0 e1 e2 rt z0 b0 b1 b2 b3 b4 c0 c1 c2 m0 i0 i1 i2 j0 j1 j2 k0 k1 k2 x_text x_typed t_pips t_many t_berths t_goal r_fault r_length r_kind r_start r_next r_number r_dice r_bt r_gt d_pips d_many d_berths d_goal a_shown a_calm a_windy a_turns a_many a_ever c_at c_past c_known i_at i_past i_known j_at j_past j_known x_kept x_cb x_ct x_chalked x_traced)) := tg_metEi (by decide) (Nat.le_of_ble_eq_true rfl) (fun X hl0 C V hE => vX4_type l D h0 x0 t0 t1 t2 r0 e0 e1 e2 rt z0 b0 b1 b2 b3 b4 c0 c1 c2 m0 i0 i1 i2 j0 j1 j2 k0 k1 k2 x_text x_typed t_pips t_many t_berths t_goal r_fault r_length r_kind r_start r_next r_number r_dice r_bt r_gt d_pips d_many d_berths d_goal a_shown a_calm a_windy a_turns a_many a_ever c_at c_past c_known i_at i_past i_known j_at j_past j_known x_kept x_cb x_ct x_chalked x_traced p1 X hl0 C V r q_x_text q_x_typed hs hE)
def fX4_clear (x_typed : Int32) : Option (Int32 × Int32) := some (x_typed, 0)
set_option maxHeartbeats 2000000 in
set_option maxRecDepth 20000 in
theorem vX4_clear (l : Launch) (D : tg_D) (h0 x0 t0 t1 t2 r0 e0 e1 e2 rt z0 b0 b1 b2 b3 b4 c0 c1 c2 m0 i0 i1 i2 j0 j1 j2 k0 k1 k2 : Nat) (x_text : Nat → Int32) (x_typed : Int32) (t_pips : Nat → Int32) (t_many : Nat → Int32) (t_berths : Int32) (t_goal : Int32) (r_fault : Int32) (r_length : Int32) (r_kind : Int32) (r_start : Int32) (r_next : Int32) (r_number : Int32) (r_dice : Int32) (r_bt : Int32) (r_gt : Int32) (d_pips : Nat → Int32) (d_many : Nat → Int32) (d_berths : Int32) (d_goal : Int32) (a_shown : Nat → Int32) (a_calm : Nat → Int32) (a_windy : Nat → Int32) (a_turns : Nat → Int32) (a_many : Int32) (a_ever : Int32) (c_at : Nat → Int32) (c_past : Nat → Int32) (c_known : Int32) (i_at : Nat → Int32) (i_past : Nat → Int32) (i_known : Int32) (j_at : Nat → Int32) (j_past : Nat → Int32) (j_known : Int32) (x_kept : Nat → Int32) (x_cb : Nat → Int32) (x_ct : Nat → Int32) (x_chalked : Int32) (x_traced : Int64) (X : tg_X) (hl0 : tg_l X = l) (C : tg_C X D 2 cX4_clear RX4 0 0 0 0) (V : tg_V X) (r : Int32) (q_x_typed : Int32) (hs : fX4_clear x_typed = some (r, q_x_typed)) (hE : tg_Ei X D 0 0 cX4_clear .int r (tw_X D h0 x0 t0 t1 t2 r0 e0 e1 e2 rt z0 b0 b1 b2 b3 b4 c0 c1 c2 m0 i0 i1 i2 j0 j1 j2 k0 k1 k2 x_text q_x_typed t_pips t_many t_berths t_goal r_fault r_length r_kind r_start r_next r_number r_dice r_bt r_gt d_pips d_many d_berths d_goal a_shown a_calm a_windy a_turns a_many a_ever c_at c_past c_known i_at i_past i_known j_at j_past j_known x_kept x_cb x_ct x_chalked x_traced)) : tg_G X D 2 0 0 (tw_X D h0 x0 t0 t1 t2 r0 e0 e1 e2 rt z0 b0 b1 b2 b3 b4 c0 c1 c2 m0 i0 i1 i2 j0 j1 j2 k0 k1 k2 x_text x_typed t_pips t_many t_berths t_goal r_fault r_length r_kind r_start r_next r_number r_dice r_bt r_gt d_pips d_many d_berths d_goal a_shown a_calm a_windy a_turns a_many a_ever c_at c_past c_known i_at i_past i_known j_at j_past j_known x_kept x_cb x_ct x_chalked x_traced) [(0, .ref h0)] 0 [] := by
  unfold fX4_clear at hs
  refine tg_aload_n C dX4_clear_0 rfl 0 rfl ?_
  refine tg_get (v := .int x_typed) C cfX4 0 rfl 1 (by decide) wm_240 rfl dX4_clear_1 ?_
  refine tg_istore_n (lv' := [(1, .int x_typed), (0, .ref h0)]) C dX4_clear_4 rfl (by decide) rfl ?_
  refine tg_aload_n C dX4_clear_5 rfl 1 rfl ?_
  refine tg_iconst (v := 0) C dX4_clear_6 (by decide) ?_
  refine tg_put (ws' := (tw_X D h0 x0 t0 t1 t2 r0 e0 e1 e2 rt z0 b0 b1 b2 b3 b4 c0 c1 c2 m0 i0 i1 i2 j0 j1 j2 k0 k1 k2 x_text 0 t_pips t_many t_berths t_goal r_fault r_length r_kind r_start r_next r_number r_dice r_bt r_gt d_pips d_many d_berths d_goal a_shown a_calm a_windy a_turns a_many a_ever c_at c_past c_known i_at i_past i_known j_at j_past j_known x_kept x_cb x_ct x_chalked x_traced)) C V cfX4 0 rfl 1 (by decide) wm_240 rfl rfl rfl (Nat.le_of_ble_eq_true rfl) rfl dX4_clear_7 ?_
  refine tg_iload_n C dX4_clear_10 rfl 0 rfl ?_
  obtain ⟨rfl, rfl⟩ := tg_i2 hs
  exact tg_iret hE rfl dX4_clear_11
set_option maxHeartbeats 2000000 in
set_option maxRecDepth 20000 in
theorem kX4_clear (l : Launch) (D : tg_D) (h0 x0 t0 t1 t2 r0 e0 e1 e2 rt z0 b0 b1 b2 b3 b4 c0 c1 c2 m0 i0 i1 i2 j0 j1 j2 k0 k1 k2 : Nat) (x_text : Nat → Int32) (x_typed : Int32) (t_pips : Nat → Int32) (t_many : Nat → Int32) (t_berths : Int32) (t_goal : Int32) (r_fault : Int32) (r_length : Int32) (r_kind : Int32) (r_start : Int32) (r_next : Int32) (r_number : Int32) (r_dice : Int32) (r_bt : Int32) (r_gt : Int32) (d_pips : Nat → Int32) (d_many : Nat → Int32) (d_berths : Int32) (d_goal : Int32) (a_shown : Nat → Int32) (a_calm : Nat → Int32) (a_windy : Nat → Int32) (a_turns : Nat → Int32) (a_many : Int32) (a_ever : Int32) (c_at : Nat → Int32) (c_past : Nat → Int32) (c_known : Int32) (i_at : Nat → Int32) (i_past : Nat → Int32) (i_known : Int32) (j_at : Nat → Int32) (j_past : Nat → Int32) (j_known : Int32) (x_kept : Nat → Int32) (x_cb : Nat → Int32) (x_ct : Nat → Int32) (x_chalked : Int32) (x_traced : Int64) (r : Int32) (q_x_typed : Int32) (hs : fX4_clear x_typed = some (r, q_x_typed)) : Met l yX4_clear [Cond.code yX4_clear cX4_clear 2 (some .int)] (tg_rm 0 0) (tg_Pre D (tw_X D h0 x0 t0 t1 t2 r0 e0 e1 e2 rt z0 b0 b1 b2 b3 b4 c0 c1 c2 m0 i0 i1 i2 j0 j1 j2 k0 k1 k2 x_text x_typed t_pips t_many t_berths t_goal r_fault r_length r_kind r_start r_next r_number r_dice r_bt r_gt d_pips d_many d_berths d_goal a_shown a_calm a_windy a_turns a_many a_ever c_at c_past c_known i_at i_past i_known j_at j_past j_known x_kept x_cb x_ct x_chalked x_traced) [.ref h0]) (tg_Qe (some (.int r)) D (tw_X D h0 x0 t0 t1 t2 r0 e0 e1 e2 rt z0 b0 b1 b2 b3 b4 c0 c1 c2 m0 i0 i1 i2 j0 j1 j2 k0 k1 k2 x_text q_x_typed t_pips t_many t_berths t_goal r_fault r_length r_kind r_start r_next r_number r_dice r_bt r_gt d_pips d_many d_berths d_goal a_shown a_calm a_windy a_turns a_many a_ever c_at c_past c_known i_at i_past i_known j_at j_past j_known x_kept x_cb x_ct x_chalked x_traced) (tg_Ad (tw_X D h0 x0 t0 t1 t2 r0 e0 e1 e2 rt z0 b0 b1 b2 b3 b4 c0 c1 c2 m0 i0 i1 i2 j0 j1 j2 k0 k1 k2 x_text x_typed t_pips t_many t_berths t_goal r_fault r_length r_kind r_start r_next r_number r_dice r_bt r_gt d_pips d_many d_berths d_goal a_shown a_calm a_windy a_turns a_many a_ever c_at c_past c_known i_at i_past i_known j_at j_past j_known x_kept x_cb x_ct x_chalked x_traced))) 0 0 (tg_Ad (tw_X D h0 x0 t0 t1 t2 r0 e0 e1 e2 rt z0 b0 b1 b2 b3 b4 c0 c1 c2 m0 i0 i1 i2 j0 j1 j2 k0 k1 k2 x_text x_typed t_pips t_many t_berths t_goal r_fault r_length r_kind r_start r_next r_number r_dice r_bt r_gt d_pips d_many d_berths d_goal a_shown a_calm a_windy a_turns a_many a_ever c_at c_past c_known i_at i_past i_known j_at j_past j_known x_kept x_cb x_ct x_chalked x_traced)) := tg_metEi (by decide) (Nat.le_of_ble_eq_true rfl) (fun X hl0 C V hE => vX4_clear l D h0 x0 t0 t1 t2 r0 e0 e1 e2 rt z0 b0 b1 b2 b3 b4 c0 c1 c2 m0 i0 i1 i2 j0 j1 j2 k0 k1 k2 x_text x_typed t_pips t_many t_berths t_goal r_fault r_length r_kind r_start r_next r_number r_dice r_bt r_gt d_pips d_many d_berths d_goal a_shown a_calm a_windy a_turns a_many a_ever c_at c_past c_known i_at i_past i_known j_at j_past j_known x_kept x_cb x_ct x_chalked x_traced X hl0 C V r q_x_typed hs hE)
def fX4_harbour_L73 : Nat → (Nat → Int32) → Int32 → Option ((Nat → Int32) × Int32)
  | 0, _, _ => none
  | fuel + 1, x_kept, n2 => if 2 ≤ n2 then (some (x_kept, n2)) else (tg_ck n2 2 <| tg_nm (upd x_kept (Int32.toNatClampNeg n2) (vp_nar .boolean 0)) fun gg33 => tg_nm (n2 + 1) fun vv35 => fX4_harbour_L73 fuel gg33 vv35)
def fX4_harbour (x_text : Nat → Int32) (x_typed : Int32) (t_pips : Nat → Int32) (t_many : Nat → Int32) (t_berths : Int32) (t_goal : Int32) (r_number : Int32) (d_pips : Nat → Int32) (d_many : Nat → Int32) (a_shown : Nat → Int32) (a_calm : Nat → Int32) (a_windy : Nat → Int32) (a_turns : Nat → Int32) (a_many : Int32) (a_ever : Int32) (c_at : Nat → Int32) (c_known : Int32) (x_kept : Nat → Int32) (x_chalked : Int32) : Option (Int32 × Int32 × (Nat → Int32) × (Nat → Int32) × Int32 × Int32 × Int32 × Int32 × Int32 × Int32 × Int32 × Int32 × Int32 × Int32 × Int32 × (Nat → Int32) × (Nat → Int32) × Int32 × Int32 × (Nat → Int32) × (Nat → Int32) × (Nat → Int32) × (Nat → Int32) × Int32 × Int32 × (Nat → Int32) × Int32 × (Nat → Int32) × Int32) := tg_b14 (fX2_readItems r_number d_pips d_many x_text x_typed) fun rr1 vv2 vv3 vv4 vv5 vv6 vv7 vv8 vv9 vv10 gg11 gg12 vv13 vv14 => if vv2 = (-9) then (tg_b4 (fX3_becomes t_pips t_many gg11 gg12 vv13 vv14) fun gg17 gg18 vv19 vv20 => tg_b6 (fX0_makeOf a_shown a_calm a_windy a_turns gg17 gg18 vv19) fun gg22 gg23 gg24 gg25 vv26 vv27 => tg_b2 (fX1_begin c_at) fun gg29 vv30 => tg_b2 (fX4_harbour_L73 400 x_kept 0) fun vv36 vv37 => some (rr1, 0, gg17, gg18, vv19, vv20, vv2, vv3, vv4, vv5, vv6, vv7, vv8, vv9, vv10, gg11, gg12, vv13, vv14, gg22, gg23, gg24, gg25, vv26, vv27, gg29, vv30, vv36, 0)) else (some ((-10) - vv2, x_typed, t_pips, t_many, t_berths, t_goal, vv2, vv3, vv4, vv5, vv6, vv7, vv8, vv9, vv10, gg11, gg12, vv13, vv14, a_shown, a_calm, a_windy, a_turns, a_many, a_ever, c_at, c_known, x_kept, x_chalked))
set_option maxHeartbeats 2000000 in
set_option maxRecDepth 20000 in
theorem vX4_harbour_L73 (l : Launch) (D : tg_D) (h0 x0 t0 t1 t2 r0 e0 e1 e2 rt z0 b0 b1 b2 b3 b4 c0 c1 c2 m0 i0 i1 i2 j0 j1 j2 k0 k1 k2 : Nat) (x_text : Nat → Int32) (x_typed : Int32) (t_pips : Nat → Int32) (t_many : Nat → Int32) (t_berths : Int32) (t_goal : Int32) (r_fault : Int32) (r_length : Int32) (r_kind : Int32) (r_start : Int32) (r_next : Int32) (r_number : Int32) (r_dice : Int32) (r_bt : Int32) (r_gt : Int32) (d_pips : Nat → Int32) (d_many : Nat → Int32) (d_berths : Int32) (d_goal : Int32) (a_shown : Nat → Int32) (a_calm : Nat → Int32) (a_windy : Nat → Int32) (a_turns : Nat → Int32) (a_many : Int32) (a_ever : Int32) (c_at : Nat → Int32) (c_past : Nat → Int32) (c_known : Int32) (i_at : Nat → Int32) (i_past : Nat → Int32) (i_known : Int32) (j_at : Nat → Int32) (j_past : Nat → Int32) (j_known : Int32) (x_cb : Nat → Int32) (x_ct : Nat → Int32) (x_chalked : Int32) (x_traced : Int64) (n1 : Int32) (X : tg_X) (hl0 : tg_l X = l) (C : tg_C X D 3 cX4_harbour RX4 6 129 0 0) (V : tg_V X) (o_x_kept : Nat → Int32) (o_n2 : Int32) : ∀ (fuel : Nat) (x_kept : Nat → Int32) (n2 : Int32), fX4_harbour_L73 fuel x_kept n2 = some (o_x_kept, o_n2) → tg_G X D 3 0 0 (tw_X D h0 x0 t0 t1 t2 r0 e0 e1 e2 x0 z0 b0 b1 b2 b3 b4 c0 c1 c2 m0 i0 i1 i2 j0 j1 j2 k0 k1 k2 x_text x_typed t_pips t_many t_berths t_goal r_fault r_length r_kind r_start r_next r_number r_dice r_bt r_gt d_pips d_many d_berths d_goal a_shown a_calm a_windy a_turns a_many a_ever c_at c_past c_known i_at i_past i_known j_at j_past j_known o_x_kept x_cb x_ct x_chalked x_traced) [(0, .ref h0), (1, .int n1), (2, .int o_n2)] 91 [] → tg_G X D 3 0 0 (tw_X D h0 x0 t0 t1 t2 r0 e0 e1 e2 x0 z0 b0 b1 b2 b3 b4 c0 c1 c2 m0 i0 i1 i2 j0 j1 j2 k0 k1 k2 x_text x_typed t_pips t_many t_berths t_goal r_fault r_length r_kind r_start r_next r_number r_dice r_bt r_gt d_pips d_many d_berths d_goal a_shown a_calm a_windy a_turns a_many a_ever c_at c_past c_known i_at i_past i_known j_at j_past j_known x_kept x_cb x_ct x_chalked x_traced) [(0, .ref h0), (1, .int n1), (2, .int n2)] 73 [] := by
  intro fuel
  induction fuel with
  | zero =>
    intro x_kept n2 hs _
    rw [fX4_harbour_L73] at hs
    cases hs
  | succ fuel ih =>
    intro x_kept n2 hs J
    rw [fX4_harbour_L73] at hs
    refine tg_iload_n C dX4_harbour_73 rfl 2 rfl ?_
    refine tg_iconst (v := 2) C dX4_harbour_74 (by decide) ?_
    refine tg_icmp_ge (tgt := 91) C dX4_harbour_75 (by decide) (fun cc32 => ?_) (fun cc32 => ?_)
    · have hs := tg_t cc32 hs
      obtain ⟨rfl, rfl⟩ := tg_i2 hs
      exact J
    · have hs := tg_f cc32 hs
      refine tg_aload_n C dX4_harbour_78 rfl 0 rfl ?_
      refine tg_get (v := .ref k0) C cfX4 0 rfl 7 (by decide) wm_246 rfl dX4_harbour_79 ?_
      refine tg_iload_n C dX4_harbour_82 rfl 2 rfl ?_
      refine tg_iconst (v := 0) C dX4_harbour_83 (by decide) ?_
      obtain ⟨hh34, hs⟩ := tg_ck_e hs
      obtain ⟨gg33, egg33, hs⟩ := tg_nm_e hs
      refine tg_zast (ws' := (tw_X D h0 x0 t0 t1 t2 r0 e0 e1 e2 x0 z0 b0 b1 b2 b3 b4 c0 c1 c2 m0 i0 i1 i2 j0 j1 j2 k0 k1 k2 x_text x_typed t_pips t_many t_berths t_goal r_fault r_length r_kind r_start r_next r_number r_dice r_bt r_gt d_pips d_many d_berths d_goal a_shown a_calm a_windy a_turns a_many a_ever c_at c_past c_known i_at i_past i_known j_at j_past j_known gg33 x_cb x_ct x_chalked x_traced)) C V 25 1 rfl rfl hh34 egg33 rfl dX4_harbour_84 ?_
      obtain ⟨vv35, evv35, hs⟩ := tg_nm_e hs
      refine tg_iinc (v := vv35) (lv' := [(2, .int vv35), (0, .ref h0), (1, .int n1)]) C dX4_harbour_85 2 rfl (by rw [evv35]; rfl) (by decide) rfl ?_
      refine tg_goto (tgt := 73) C dX4_harbour_88 (by decide) ?_
      refine tg_lsub [1, 2, 0] rfl ?_
      exact ih gg33 vv35 hs J
set_option maxHeartbeats 2000000 in
set_option maxRecDepth 20000 in
theorem vX4_harbour (l : Launch) (D : tg_D) (h0 x0 t0 t1 t2 r0 e0 e1 e2 rt z0 b0 b1 b2 b3 b4 c0 c1 c2 m0 i0 i1 i2 j0 j1 j2 k0 k1 k2 : Nat) (x_text : Nat → Int32) (x_typed : Int32) (t_pips : Nat → Int32) (t_many : Nat → Int32) (t_berths : Int32) (t_goal : Int32) (r_fault : Int32) (r_length : Int32) (r_kind : Int32) (r_start : Int32) (r_next : Int32) (r_number : Int32) (r_dice : Int32) (r_bt : Int32) (r_gt : Int32) (d_pips : Nat → Int32) (d_many : Nat → Int32) (d_berths : Int32) (d_goal : Int32) (a_shown : Nat → Int32) (a_calm : Nat → Int32) (a_windy : Nat → Int32) (a_turns : Nat → Int32) (a_many : Int32) (a_ever : Int32) (c_at : Nat → Int32) (c_past : Nat → Int32) (c_known : Int32) (i_at : Nat → Int32) (i_past : Nat → Int32) (i_known : Int32) (j_at : Nat → Int32) (j_past : Nat → Int32) (j_known : Int32) (x_kept : Nat → Int32) (x_cb : Nat → Int32) (x_ct : Nat → Int32) (x_chalked : Int32) (x_traced : Int64) (X : tg_X) (hl0 : tg_l X = l) (C : tg_C X D 3 cX4_harbour RX4 6 129 0 0) (V : tg_V X) (r : Int32) (q_x_typed : Int32) (q_t_pips : Nat → Int32) (q_t_many : Nat → Int32) (q_t_berths : Int32) (q_t_goal : Int32) (q_r_fault : Int32) (q_r_length : Int32) (q_r_kind : Int32) (q_r_start : Int32) (q_r_next : Int32) (q_r_number : Int32) (q_r_dice : Int32) (q_r_bt : Int32) (q_r_gt : Int32) (q_d_pips : Nat → Int32) (q_d_many : Nat → Int32) (q_d_berths : Int32) (q_d_goal : Int32) (q_a_shown : Nat → Int32) (q_a_calm : Nat → Int32) (q_a_windy : Nat → Int32) (q_a_turns : Nat → Int32) (q_a_many : Int32) (q_a_ever : Int32) (q_c_at : Nat → Int32) (q_c_known : Int32) (q_x_kept : Nat → Int32) (q_x_chalked : Int32) (hs : fX4_harbour x_text x_typed t_pips t_many t_berths t_goal r_number d_pips d_many a_shown a_calm a_windy a_turns a_many a_ever c_at c_known x_kept x_chalked = some (r, q_x_typed, q_t_pips, q_t_many, q_t_berths, q_t_goal, q_r_fault, q_r_length, q_r_kind, q_r_start, q_r_next, q_r_number, q_r_dice, q_r_bt, q_r_gt, q_d_pips, q_d_many, q_d_berths, q_d_goal, q_a_shown, q_a_calm, q_a_windy, q_a_turns, q_a_many, q_a_ever, q_c_at, q_c_known, q_x_kept, q_x_chalked)) (hE : tg_Ei X D 0 0 cX4_harbour .int r (tw_X D h0 x0 t0 t1 t2 r0 e0 e1 e2 x0 z0 b0 b1 b2 b3 b4 c0 c1 c2 m0 i0 i1 i2 j0 j1 j2 k0 k1 k2 x_text q_x_typed q_t_pips q_t_many q_t_berths q_t_goal q_r_fault q_r_length q_r_kind q_r_start q_r_next q_r_number q_r_dice q_r_bt q_r_gt q_d_pips q_d_many q_d_berths q_d_goal q_a_shown q_a_calm q_a_windy q_a_turns q_a_many q_a_ever q_c_at c_past q_c_known i_at i_past i_known j_at j_past j_known q_x_kept x_cb x_ct q_x_chalked x_traced)) : tg_G X D 3 0 0 (tw_X D h0 x0 t0 t1 t2 r0 e0 e1 e2 rt z0 b0 b1 b2 b3 b4 c0 c1 c2 m0 i0 i1 i2 j0 j1 j2 k0 k1 k2 x_text x_typed t_pips t_many t_berths t_goal r_fault r_length r_kind r_start r_next r_number r_dice r_bt r_gt d_pips d_many d_berths d_goal a_shown a_calm a_windy a_turns a_many a_ever c_at c_past c_known i_at i_past i_known j_at j_past j_known x_kept x_cb x_ct x_chalked x_traced) [(0, .ref h0)] 0 [] := by
  unfold fX4_harbour at hs
  refine tg_aload_n C dX4_harbour_0 rfl 0 rfl ?_
  refine tg_get (v := .ref r0) C cfX4 0 rfl 3 (by decide) wm_242 rfl dX4_harbour_1 ?_
  refine tg_aload_n C dX4_harbour_4 rfl 0 rfl ?_
  refine tg_get (v := .ref x0) C cfX4 0 rfl 0 (by decide) wm_239 rfl dX4_harbour_5 ?_
  refine tg_aload_n C dX4_harbour_8 rfl 0 rfl ?_
  refine tg_get (v := .int x_typed) C cfX4 0 rfl 1 (by decide) wm_240 rfl dX4_harbour_9 ?_
  obtain ⟨rr1, vv2, vv3, vv4, vv5, vv6, vv7, vv8, vv9, vv10, gg11, gg12, vv13, vv14, ee15, hs⟩ := tg_b14_e hs
  refine tg_eV (ws' := (tw_X D h0 x0 t0 t1 t2 r0 e0 e1 e2 x0 z0 b0 b1 b2 b3 b4 c0 c1 c2 m0 i0 i1 i2 j0 j1 j2 k0 k1 k2 x_text x_typed t_pips t_many t_berths t_goal vv2 vv3 vv4 vv5 vv6 vv7 vv8 vv9 vv10 gg11 gg12 vv13 vv14 a_shown a_calm a_windy a_turns a_many a_ever c_at c_past c_known i_at i_past i_known j_at j_past j_known x_kept x_cb x_ct x_chalked x_traced)) (As := [.ref x0, .int x_typed]) (rest := []) C V hl0 (kX2_readItems l D r0 e0 e1 e2 x0 rt r_fault r_length r_kind r_start r_next r_number r_dice r_bt r_gt d_pips d_many d_berths d_goal x_text x_typed rr1 vv2 vv3 vv4 vv5 vv6 vv7 vv8 vv9 vv10 gg11 gg12 vv13 vv14 ee15) wm_288 meX2_readItems (by decide) [5, 6, 7, 8, 1] rfl (by decide) rfl rfl rfl rfl (Nat.le_of_ble_eq_true rfl) rfl rfl rfl dX4_harbour_12 ?_
  refine tg_istore_n (lv' := [(1, .int rr1), (0, .ref h0)]) C dX4_harbour_15 rfl (by decide) rfl ?_
  refine tg_aload_n C dX4_harbour_16 rfl 1 rfl ?_
  refine tg_get (v := .ref r0) C cfX4 0 rfl 3 (by decide) wm_242 rfl dX4_harbour_17 ?_
  refine tg_get (v := .int vv2) C cfX2 5 rfl 1 (by decide) wm_124 rfl dX4_harbour_20 ?_
  refine tg_bipush (v := (-9)) C dX4_harbour_23 (by decide) ?_
  refine tg_icmp_eq (tgt := 39) C dX4_harbour_25 (by decide) (fun cc16 => ?_) (fun cc16 => ?_)
  · have hs := tg_t cc16 hs
    refine tg_aload_n C dX4_harbour_39 rfl 1 rfl ?_
    refine tg_get (v := .ref t0) C cfX4 0 rfl 2 (by decide) wm_241 rfl dX4_harbour_40 ?_
    refine tg_aload_n C dX4_harbour_43 rfl 1 rfl ?_
    refine tg_get (v := .ref r0) C cfX4 0 rfl 3 (by decide) wm_242 rfl dX4_harbour_44 ?_
    refine tg_get (v := .ref e0) C cfX2 5 rfl 0 (by decide) wm_122 rfl dX4_harbour_47 ?_
    obtain ⟨gg17, gg18, vv19, vv20, ee21, hs⟩ := tg_b4_e hs
    refine tg_eV (ws' := (tw_X D h0 x0 t0 t1 t2 r0 e0 e1 e2 x0 z0 b0 b1 b2 b3 b4 c0 c1 c2 m0 i0 i1 i2 j0 j1 j2 k0 k1 k2 x_text x_typed gg17 gg18 vv19 vv20 vv2 vv3 vv4 vv5 vv6 vv7 vv8 vv9 vv10 gg11 gg12 vv13 vv14 a_shown a_calm a_windy a_turns a_many a_ever c_at c_past c_known i_at i_past i_known j_at j_past j_known x_kept x_cb x_ct x_chalked x_traced)) (As := [.ref e0]) (rest := []) C V hl0 (kX3_becomes l D t0 t1 t2 e0 e1 e2 t_pips t_many t_berths t_goal gg11 gg12 vv13 vv14 gg17 gg18 vv19 vv20 ee21) wm_340 meX3_becomes (by decide) [2, 3, 4, 6, 7, 8] rfl (by decide) rfl rfl rfl rfl (Nat.le_of_ble_eq_true rfl) rfl rfl rfl dX4_harbour_50 ?_
    refine tg_aload_n C dX4_harbour_53 rfl 1 rfl ?_
    refine tg_get (v := .ref b0) C cfX4 0 rfl 4 (by decide) wm_243 rfl dX4_harbour_54 ?_
    refine tg_aload_n C dX4_harbour_57 rfl 1 rfl ?_
    refine tg_get (v := .ref t0) C cfX4 0 rfl 2 (by decide) wm_241 rfl dX4_harbour_58 ?_
    obtain ⟨gg22, gg23, gg24, gg25, vv26, vv27, ee28, hs⟩ := tg_b6_e hs
    refine tg_eV (ws' := (tw_X D h0 x0 t0 t1 t2 r0 e0 e1 e2 x0 z0 b0 b1 b2 b3 b4 c0 c1 c2 m0 i0 i1 i2 j0 j1 j2 k0 k1 k2 x_text x_typed gg17 gg18 vv19 vv20 vv2 vv3 vv4 vv5 vv6 vv7 vv8 vv9 vv10 gg11 gg12 vv13 vv14 gg22 gg23 gg24 gg25 vv26 vv27 c_at c_past c_known i_at i_past i_known j_at j_past j_known x_kept x_cb x_ct x_chalked x_traced)) (As := [.ref t0]) (rest := []) C V hl0 (kX0_makeOf l D b0 b1 b2 b3 b4 t0 t1 t2 a_shown a_calm a_windy a_turns a_many a_ever gg17 gg18 vv19 vv20 gg22 gg23 gg24 gg25 vv26 vv27 ee28) wm_210 meX0_makeOf (by decide) [10, 11, 12, 13, 14, 2, 3, 4] rfl (by decide) rfl rfl rfl rfl (Nat.le_of_ble_eq_true rfl) rfl rfl rfl dX4_harbour_61 ?_
    refine tg_aload_n C dX4_harbour_64 rfl 1 rfl ?_
    refine tg_get (v := .ref c0) C cfX4 0 rfl 5 (by decide) wm_244 rfl dX4_harbour_65 ?_
    obtain ⟨gg29, vv30, ee31, hs⟩ := tg_b2_e hs
    refine tg_eV (ws' := (tw_X D h0 x0 t0 t1 t2 r0 e0 e1 e2 x0 z0 b0 b1 b2 b3 b4 c0 c1 c2 m0 i0 i1 i2 j0 j1 j2 k0 k1 k2 x_text x_typed gg17 gg18 vv19 vv20 vv2 vv3 vv4 vv5 vv6 vv7 vv8 vv9 vv10 gg11 gg12 vv13 vv14 gg22 gg23 gg24 gg25 vv26 vv27 gg29 c_past vv30 i_at i_past i_known j_at j_past j_known x_kept x_cb x_ct x_chalked x_traced)) (As := []) (rest := []) C V hl0 (kX1_begin l D c0 c1 c2 t0 t1 t2 c_at c_past c_known gg17 gg18 vv19 vv20 gg29 vv30 ee31) wm_347 meX1_begin (by decide) [15, 16, 17, 2, 3, 4] rfl (by decide) rfl rfl rfl rfl (Nat.le_of_ble_eq_true rfl) rfl rfl rfl dX4_harbour_68 ?_
    refine tg_iconst (v := 0) C dX4_harbour_71 (by decide) ?_
    refine tg_istore_n (lv' := [(2, .int 0), (1, .int rr1), (0, .ref h0)]) C dX4_harbour_72 rfl (by decide) rfl ?_
    refine tg_lsub [2, 1, 0] rfl ?_
    obtain ⟨vv36, vv37, ee38, hs⟩ := tg_b2_e hs
    refine vX4_harbour_L73 l D h0 x0 t0 t1 t2 r0 e0 e1 e2 x0 z0 b0 b1 b2 b3 b4 c0 c1 c2 m0 i0 i1 i2 j0 j1 j2 k0 k1 k2 x_text x_typed gg17 gg18 vv19 vv20 vv2 vv3 vv4 vv5 vv6 vv7 vv8 vv9 vv10 gg11 gg12 vv13 vv14 gg22 gg23 gg24 gg25 vv26 vv27 gg29 c_past vv30 i_at i_past i_known j_at j_past j_known x_cb x_ct x_chalked x_traced rr1 X hl0 C V vv36 vv37 400 x_kept 0 ee38 ?_
    refine tg_aload_n C dX4_harbour_91 rfl 0 rfl ?_
    refine tg_iconst (v := 0) C dX4_harbour_92 (by decide) ?_
    refine tg_put (ws' := (tw_X D h0 x0 t0 t1 t2 r0 e0 e1 e2 x0 z0 b0 b1 b2 b3 b4 c0 c1 c2 m0 i0 i1 i2 j0 j1 j2 k0 k1 k2 x_text x_typed gg17 gg18 vv19 vv20 vv2 vv3 vv4 vv5 vv6 vv7 vv8 vv9 vv10 gg11 gg12 vv13 vv14 gg22 gg23 gg24 gg25 vv26 vv27 gg29 c_past vv30 i_at i_past i_known j_at j_past j_known vv36 x_cb x_ct 0 x_traced)) C V cfX4 0 rfl 10 (by decide) wm_249 rfl rfl rfl (Nat.le_of_ble_eq_true rfl) rfl dX4_harbour_93 ?_
    refine tg_aload_n C dX4_harbour_96 rfl 0 rfl ?_
    refine tg_iconst (v := 0) C dX4_harbour_97 (by decide) ?_
    refine tg_put (ws' := (tw_X D h0 x0 t0 t1 t2 r0 e0 e1 e2 x0 z0 b0 b1 b2 b3 b4 c0 c1 c2 m0 i0 i1 i2 j0 j1 j2 k0 k1 k2 x_text 0 gg17 gg18 vv19 vv20 vv2 vv3 vv4 vv5 vv6 vv7 vv8 vv9 vv10 gg11 gg12 vv13 vv14 gg22 gg23 gg24 gg25 vv26 vv27 gg29 c_past vv30 i_at i_past i_known j_at j_past j_known vv36 x_cb x_ct 0 x_traced)) C V cfX4 0 rfl 1 (by decide) wm_240 rfl rfl rfl (Nat.le_of_ble_eq_true rfl) rfl dX4_harbour_98 ?_
    refine tg_iload_n C dX4_harbour_101 rfl 1 rfl ?_
    obtain ⟨rfl, rfl, rfl, rfl, rfl, rfl, rfl, rfl, rfl, rfl, rfl, rfl, rfl, rfl, rfl, rfl, rfl, rfl, rfl, rfl, rfl, rfl, rfl, rfl, rfl, rfl, rfl, rfl, rfl⟩ := tg_i29 hs
    exact tg_iret hE rfl dX4_harbour_102
  · have hs := tg_f cc16 hs
    refine tg_bipush (v := (-10)) C dX4_harbour_28 (by decide) ?_
    refine tg_aload_n C dX4_harbour_30 rfl 1 rfl ?_
    refine tg_get (v := .ref r0) C cfX4 0 rfl 3 (by decide) wm_242 rfl dX4_harbour_31 ?_
    refine tg_get (v := .int vv2) C cfX2 5 rfl 1 (by decide) wm_124 rfl dX4_harbour_34 ?_
    refine tg_isub C dX4_harbour_37 ?_
    obtain ⟨rfl, rfl, rfl, rfl, rfl, rfl, rfl, rfl, rfl, rfl, rfl, rfl, rfl, rfl, rfl, rfl, rfl, rfl, rfl, rfl, rfl, rfl, rfl, rfl, rfl, rfl, rfl, rfl, rfl⟩ := tg_i29 hs
    exact tg_iret hE rfl dX4_harbour_38
set_option maxHeartbeats 2000000 in
set_option maxRecDepth 20000 in
theorem kX4_harbour (l : Launch) (D : tg_D) (h0 x0 t0 t1 t2 r0 e0 e1 e2 rt z0 b0 b1 b2 b3 b4 c0 c1 c2 m0 i0 i1 i2 j0 j1 j2 k0 k1 k2 : Nat) (x_text : Nat → Int32) (x_typed : Int32) (t_pips : Nat → Int32) (t_many : Nat → Int32) (t_berths : Int32) (t_goal : Int32) (r_fault : Int32) (r_length : Int32) (r_kind : Int32) (r_start : Int32) (r_next : Int32) (r_number : Int32) (r_dice : Int32) (r_bt : Int32) (r_gt : Int32) (d_pips : Nat → Int32) (d_many : Nat → Int32) (d_berths : Int32) (d_goal : Int32) (a_shown : Nat → Int32) (a_calm : Nat → Int32) (a_windy : Nat → Int32) (a_turns : Nat → Int32) (a_many : Int32) (a_ever : Int32) (c_at : Nat → Int32) (c_past : Nat → Int32) (c_known : Int32) (i_at : Nat → Int32) (i_past : Nat → Int32) (i_known : Int32) (j_at : Nat → Int32) (j_past : Nat → Int32) (j_known : Int32) (x_kept : Nat → Int32) (x_cb : Nat → Int32) (x_ct : Nat → Int32) (x_chalked : Int32) (x_traced : Int64) (r : Int32) (q_x_typed : Int32) (q_t_pips : Nat → Int32) (q_t_many : Nat → Int32) (q_t_berths : Int32) (q_t_goal : Int32) (q_r_fault : Int32) (q_r_length : Int32) (q_r_kind : Int32) (q_r_start : Int32) (q_r_next : Int32) (q_r_number : Int32) (q_r_dice : Int32) (q_r_bt : Int32) (q_r_gt : Int32) (q_d_pips : Nat → Int32) (q_d_many : Nat → Int32) (q_d_berths : Int32) (q_d_goal : Int32) (q_a_shown : Nat → Int32) (q_a_calm : Nat → Int32) (q_a_windy : Nat → Int32) (q_a_turns : Nat → Int32) (q_a_many : Int32) (q_a_ever : Int32) (q_c_at : Nat → Int32) (q_c_known : Int32) (q_x_kept : Nat → Int32) (q_x_chalked : Int32) (hs : fX4_harbour x_text x_typed t_pips t_many t_berths t_goal r_number d_pips d_many a_shown a_calm a_windy a_turns a_many a_ever c_at c_known x_kept x_chalked = some (r, q_x_typed, q_t_pips, q_t_many, q_t_berths, q_t_goal, q_r_fault, q_r_length, q_r_kind, q_r_start, q_r_next, q_r_number, q_r_dice, q_r_bt, q_r_gt, q_d_pips, q_d_many, q_d_berths, q_d_goal, q_a_shown, q_a_calm, q_a_windy, q_a_turns, q_a_many, q_a_ever, q_c_at, q_c_known, q_x_kept, q_x_chalked)) : Met l yX4_harbour [Cond.code yX4_harbour cX4_harbour 3 (some .int)] (tg_rm 6 129) (tg_Pre D (tw_X D h0 x0 t0 t1 t2 r0 e0 e1 e2 rt z0 b0 b1 b2 b3 b4 c0 c1 c2 m0 i0 i1 i2 j0 j1 j2 k0 k1 k2 x_text x_typed t_pips t_many t_berths t_goal r_fault r_length r_kind r_start r_next r_number r_dice r_bt r_gt d_pips d_many d_berths d_goal a_shown a_calm a_windy a_turns a_many a_ever c_at c_past c_known i_at i_past i_known j_at j_past j_known x_kept x_cb x_ct x_chalked x_traced) [.ref h0]) (tg_Qe (some (.int r)) D (tw_X D h0 x0 t0 t1 t2 r0 e0 e1 e2 x0 z0 b0 b1 b2 b3 b4 c0 c1 c2 m0 i0 i1 i2 j0 j1 j2 k0 k1 k2 x_text q_x_typed q_t_pips q_t_many q_t_berths q_t_goal q_r_fault q_r_length q_r_kind q_r_start q_r_next q_r_number q_r_dice q_r_bt q_r_gt q_d_pips q_d_many q_d_berths q_d_goal q_a_shown q_a_calm q_a_windy q_a_turns q_a_many q_a_ever q_c_at c_past q_c_known i_at i_past i_known j_at j_past j_known q_x_kept x_cb x_ct q_x_chalked x_traced) (tg_Ad (tw_X D h0 x0 t0 t1 t2 r0 e0 e1 e2 rt z0 b0 b1 b2 b3 b4 c0 c1 c2 m0 i0 i1 i2 j0 j1 j2 k0 k1 k2 x_text x_typed t_pips t_many t_berths t_goal r_fault r_length r_kind r_start r_next r_number r_dice r_bt r_gt d_pips d_many d_berths d_goal a_shown a_calm a_windy a_turns a_many a_ever c_at c_past c_known i_at i_past i_known j_at j_past j_known x_kept x_cb x_ct x_chalked x_traced))) 0 0 (tg_Ad (tw_X D h0 x0 t0 t1 t2 r0 e0 e1 e2 rt z0 b0 b1 b2 b3 b4 c0 c1 c2 m0 i0 i1 i2 j0 j1 j2 k0 k1 k2 x_text x_typed t_pips t_many t_berths t_goal r_fault r_length r_kind r_start r_next r_number r_dice r_bt r_gt d_pips d_many d_berths d_goal a_shown a_calm a_windy a_turns a_many a_ever c_at c_past c_known i_at i_past i_known j_at j_past j_known x_kept x_cb x_ct x_chalked x_traced)) := tg_metEi (by decide) (Nat.le_of_ble_eq_true rfl) (fun X hl0 C V hE => vX4_harbour l D h0 x0 t0 t1 t2 r0 e0 e1 e2 rt z0 b0 b1 b2 b3 b4 c0 c1 c2 m0 i0 i1 i2 j0 j1 j2 k0 k1 k2 x_text x_typed t_pips t_many t_berths t_goal r_fault r_length r_kind r_start r_next r_number r_dice r_bt r_gt d_pips d_many d_berths d_goal a_shown a_calm a_windy a_turns a_many a_ever c_at c_past c_known i_at i_past i_known j_at j_past j_known x_kept x_cb x_ct x_chalked x_traced X hl0 C V r q_x_typed q_t_pips q_t_many q_t_berths q_t_goal q_r_fault q_r_length q_r_kind q_r_start q_r_next q_r_number q_r_dice q_r_bt q_r_gt q_d_pips q_d_many q_d_berths q_d_goal q_a_shown q_a_calm q_a_windy q_a_turns q_a_many q_a_ever q_c_at q_c_known q_x_kept q_x_chalked hs hE)
def fX4_die (t_pips : Nat → Int32) (t_many : Nat → Int32) (p1 : Int32) (p2 : Int32) : Option (Int32) := tg_b1 (fX4_isDie p1) fun rr1 => if rr1 = 0 then (some (-1)) else (if p2 < (-1) then (some (-1)) else (tg_ck p1 3 <| if p2 < (t_many (Int32.toNatClampNeg p1)) then (if ¬ p2 = (-1) then (tg_b1 (fX3_pip t_pips p1 p2) fun rr8 => some rr8) else (tg_ck p1 3 <| some (t_many (Int32.toNatClampNeg p1)))) else (some (-1))))
set_option maxHeartbeats 2000000 in
set_option maxRecDepth 20000 in
theorem vX4_die (l : Launch) (D : tg_D) (h0 x0 t0 t1 t2 r0 e0 e1 e2 rt z0 b0 b1 b2 b3 b4 c0 c1 c2 m0 i0 i1 i2 j0 j1 j2 k0 k1 k2 : Nat) (x_text : Nat → Int32) (x_typed : Int32) (t_pips : Nat → Int32) (t_many : Nat → Int32) (t_berths : Int32) (t_goal : Int32) (r_fault : Int32) (r_length : Int32) (r_kind : Int32) (r_start : Int32) (r_next : Int32) (r_number : Int32) (r_dice : Int32) (r_bt : Int32) (r_gt : Int32) (d_pips : Nat → Int32) (d_many : Nat → Int32) (d_berths : Int32) (d_goal : Int32) (a_shown : Nat → Int32) (a_calm : Nat → Int32) (a_windy : Nat → Int32) (a_turns : Nat → Int32) (a_many : Int32) (a_ever : Int32) (c_at : Nat → Int32) (c_past : Nat → Int32) (c_known : Int32) (i_at : Nat → Int32) (i_past : Nat → Int32) (i_known : Int32) (j_at : Nat → Int32) (j_past : Nat → Int32) (j_known : Int32) (x_kept : Nat → Int32) (x_cb : Nat → Int32) (x_ct : Nat → Int32) (x_chalked : Int32) (x_traced : Int64) (p1 : Int32) (p2 : Int32) (X : tg_X) (hl0 : tg_l X = l) (C : tg_C X D 3 cX4_die RX4 1 22 0 0) (r : Int32) (hs : fX4_die t_pips t_many p1 p2 = some r) (hE : tg_Ei X D 0 0 cX4_die .int r (tw_X D h0 x0 t0 t1 t2 r0 e0 e1 e2 rt z0 b0 b1 b2 b3 b4 c0 c1 c2 m0 i0 i1 i2 j0 j1 j2 k0 k1 k2 x_text x_typed t_pips t_many t_berths t_goal r_fault r_length r_kind r_start r_next r_number r_dice r_bt r_gt d_pips d_many d_berths d_goal a_shown a_calm a_windy a_turns a_many a_ever c_at c_past c_known i_at i_past i_known j_at j_past j_known x_kept x_cb x_ct x_chalked x_traced)) : tg_G X D 3 0 0 (tw_X D h0 x0 t0 t1 t2 r0 e0 e1 e2 rt z0 b0 b1 b2 b3 b4 c0 c1 c2 m0 i0 i1 i2 j0 j1 j2 k0 k1 k2 x_text x_typed t_pips t_many t_berths t_goal r_fault r_length r_kind r_start r_next r_number r_dice r_bt r_gt d_pips d_many d_berths d_goal a_shown a_calm a_windy a_turns a_many a_ever c_at c_past c_known i_at i_past i_known j_at j_past j_known x_kept x_cb x_ct x_chalked x_traced) [(0, .ref h0), (1, .int p1), (2, .int p2)] 0 [] := by
  unfold fX4_die at hs
  refine tg_iload_n C dX4_die_0 rfl 1 rfl ?_
  obtain ⟨rr1, ee2, hs⟩ := tg_b1_e hs
  refine tg_pS (As := [.int p1]) (rest := []) C hl0 (kX4_isDie l D p1 rr1 ee2) wm_352 meX4_isDie (by decide) rfl rfl (Nat.le_of_ble_eq_true rfl) dX4_die_1 ?_
  refine tg_if_eq (tgt := 25) C dX4_die_4 (by decide) (fun cc3 => ?_) (fun cc3 => ?_)
  · have hs := tg_t cc3 hs
    refine tg_iconst (v := (-1)) C dX4_die_25 (by decide) ?_
    obtain rfl := Option.some.inj hs
    exact tg_iret hE rfl dX4_die_26
  · have hs := tg_f cc3 hs
    refine tg_iload_n C dX4_die_7 rfl 2 rfl ?_
    refine tg_iconst (v := (-1)) C dX4_die_8 (by decide) ?_
    refine tg_icmp_lt (tgt := 25) C dX4_die_9 (by decide) (fun cc4 => ?_) (fun cc4 => ?_)
    · have hs := tg_t cc4 hs
      refine tg_iconst (v := (-1)) C dX4_die_25 (by decide) ?_
      obtain rfl := Option.some.inj hs
      exact tg_iret hE rfl dX4_die_26
    · have hs := tg_f cc4 hs
      refine tg_iload_n C dX4_die_12 rfl 2 rfl ?_
      refine tg_aload_n C dX4_die_13 rfl 0 rfl ?_
      refine tg_get (v := .ref t0) C cfX4 0 rfl 2 (by decide) wm_241 rfl dX4_die_14 ?_
      refine tg_get (v := .ref t2) C cfX3 2 rfl 1 (by decide) wm_94 rfl dX4_die_17 ?_
      refine tg_iload_n C dX4_die_20 rfl 1 rfl ?_
      obtain ⟨hh5, hs⟩ := tg_ck_e hs
      refine tg_iald C 4 0 rfl rfl hh5 dX4_die_21 ?_
      refine tg_icmp_lt (tgt := 27) C dX4_die_22 (by decide) (fun cc6 => ?_) (fun cc6 => ?_)
      · have hs := tg_t cc6 hs
        refine tg_iload_n C dX4_die_27 rfl 2 rfl ?_
        refine tg_iconst (v := (-1)) C dX4_die_28 (by decide) ?_
        refine tg_icmp_ne (tgt := 44) C dX4_die_29 (by decide) (fun cc7 => ?_) (fun cc7 => ?_)
        · have hs := tg_t cc7 hs
          refine tg_aload_n C dX4_die_44 rfl 0 rfl ?_
          refine tg_get (v := .ref t0) C cfX4 0 rfl 2 (by decide) wm_241 rfl dX4_die_45 ?_
          refine tg_iload_n C dX4_die_48 rfl 1 rfl ?_
          refine tg_iload_n C dX4_die_49 rfl 2 rfl ?_
          obtain ⟨rr8, ee9, hs⟩ := tg_b1_e hs
          refine tg_pV (As := [.int p1, .int p2]) (rest := []) C hl0 (kX3_pip l D t0 t1 t2 t_pips t_many t_berths t_goal p1 p2 rr8 ee9) wm_355 meX3_pip (by decide) [2, 3, 4] rfl (by decide) rfl rfl rfl rfl (Nat.le_of_ble_eq_true rfl) dX4_die_50 ?_
          obtain rfl := Option.some.inj hs
          exact tg_iret hE rfl dX4_die_53
        · have hs := tg_nf cc7 hs
          refine tg_aload_n C dX4_die_32 rfl 0 rfl ?_
          refine tg_get (v := .ref t0) C cfX4 0 rfl 2 (by decide) wm_241 rfl dX4_die_33 ?_
          refine tg_get (v := .ref t2) C cfX3 2 rfl 1 (by decide) wm_94 rfl dX4_die_36 ?_
          refine tg_iload_n C dX4_die_39 rfl 1 rfl ?_
          obtain ⟨hh10, hs⟩ := tg_ck_e hs
          refine tg_iald C 4 0 rfl rfl hh10 dX4_die_40 ?_
          refine tg_goto (tgt := 53) C dX4_die_41 (by decide) ?_
          obtain rfl := Option.some.inj hs
          exact tg_iret hE rfl dX4_die_53
      · have hs := tg_f cc6 hs
        refine tg_iconst (v := (-1)) C dX4_die_25 (by decide) ?_
        obtain rfl := Option.some.inj hs
        exact tg_iret hE rfl dX4_die_26
set_option maxHeartbeats 2000000 in
set_option maxRecDepth 20000 in
theorem kX4_die (l : Launch) (D : tg_D) (h0 x0 t0 t1 t2 r0 e0 e1 e2 rt z0 b0 b1 b2 b3 b4 c0 c1 c2 m0 i0 i1 i2 j0 j1 j2 k0 k1 k2 : Nat) (x_text : Nat → Int32) (x_typed : Int32) (t_pips : Nat → Int32) (t_many : Nat → Int32) (t_berths : Int32) (t_goal : Int32) (r_fault : Int32) (r_length : Int32) (r_kind : Int32) (r_start : Int32) (r_next : Int32) (r_number : Int32) (r_dice : Int32) (r_bt : Int32) (r_gt : Int32) (d_pips : Nat → Int32) (d_many : Nat → Int32) (d_berths : Int32) (d_goal : Int32) (a_shown : Nat → Int32) (a_calm : Nat → Int32) (a_windy : Nat → Int32) (a_turns : Nat → Int32) (a_many : Int32) (a_ever : Int32) (c_at : Nat → Int32) (c_past : Nat → Int32) (c_known : Int32) (i_at : Nat → Int32) (i_past : Nat → Int32) (i_known : Int32) (j_at : Nat → Int32) (j_past : Nat → Int32) (j_known : Int32) (x_kept : Nat → Int32) (x_cb : Nat → Int32) (x_ct : Nat → Int32) (x_chalked : Int32) (x_traced : Int64) (p1 : Int32) (p2 : Int32) (r : Int32) (hs : fX4_die t_pips t_many p1 p2 = some r) : Met l yX4_die [Cond.code yX4_die cX4_die 3 (some .int)] (tg_rm 1 22) (tg_Pre D (tw_X D h0 x0 t0 t1 t2 r0 e0 e1 e2 rt z0 b0 b1 b2 b3 b4 c0 c1 c2 m0 i0 i1 i2 j0 j1 j2 k0 k1 k2 x_text x_typed t_pips t_many t_berths t_goal r_fault r_length r_kind r_start r_next r_number r_dice r_bt r_gt d_pips d_many d_berths d_goal a_shown a_calm a_windy a_turns a_many a_ever c_at c_past c_known i_at i_past i_known j_at j_past j_known x_kept x_cb x_ct x_chalked x_traced) [.ref h0, .int p1, .int p2]) (vp_Si (fun r' => r' = r)) 0 0 (fun _ => False) := tg_metI (by decide) (Nat.le_of_ble_eq_true rfl) (fun X hl0 C hE => vX4_die l D h0 x0 t0 t1 t2 r0 e0 e1 e2 rt z0 b0 b1 b2 b3 b4 c0 c1 c2 m0 i0 i1 i2 j0 j1 j2 k0 k1 k2 x_text x_typed t_pips t_many t_berths t_goal r_fault r_length r_kind r_start r_next r_number r_dice r_bt r_gt d_pips d_many d_berths d_goal a_shown a_calm a_windy a_turns a_many a_ever c_at c_past c_known i_at i_past i_known j_at j_past j_known x_kept x_cb x_ct x_chalked x_traced p1 p2 X hl0 C r hs hE)
def fX4_isBerth (t_berths : Int32) (p1 : Int32) : Option (Int32) := if p1 < 1 then (some 0) else (if t_berths < p1 then (some 0) else (some 1))
set_option maxHeartbeats 2000000 in
set_option maxRecDepth 20000 in
theorem vX4_isBerth (l : Launch) (D : tg_D) (h0 x0 t0 t1 t2 r0 e0 e1 e2 rt z0 b0 b1 b2 b3 b4 c0 c1 c2 m0 i0 i1 i2 j0 j1 j2 k0 k1 k2 : Nat) (x_text : Nat → Int32) (x_typed : Int32) (t_pips : Nat → Int32) (t_many : Nat → Int32) (t_berths : Int32) (t_goal : Int32) (r_fault : Int32) (r_length : Int32) (r_kind : Int32) (r_start : Int32) (r_next : Int32) (r_number : Int32) (r_dice : Int32) (r_bt : Int32) (r_gt : Int32) (d_pips : Nat → Int32) (d_many : Nat → Int32) (d_berths : Int32) (d_goal : Int32) (a_shown : Nat → Int32) (a_calm : Nat → Int32) (a_windy : Nat → Int32) (a_turns : Nat → Int32) (a_many : Int32) (a_ever : Int32) (c_at : Nat → Int32) (c_past : Nat → Int32) (c_known : Int32) (i_at : Nat → Int32) (i_past : Nat → Int32) (i_known : Int32) (j_at : Nat → Int32) (j_past : Nat → Int32) (j_known : Int32) (x_kept : Nat → Int32) (x_cb : Nat → Int32) (x_ct : Nat → Int32) (x_chalked : Int32) (x_traced : Int64) (p1 : Int32) (X : tg_X) (hl0 : tg_l X = l) (C : tg_C X D 2 cX4_isBerth RX4 0 0 0 0) (r : Int32) (hs : fX4_isBerth t_berths p1 = some r) (hE : tg_Ei X D 0 0 cX4_isBerth .boolean r (tw_X D h0 x0 t0 t1 t2 r0 e0 e1 e2 rt z0 b0 b1 b2 b3 b4 c0 c1 c2 m0 i0 i1 i2 j0 j1 j2 k0 k1 k2 x_text x_typed t_pips t_many t_berths t_goal r_fault r_length r_kind r_start r_next r_number r_dice r_bt r_gt d_pips d_many d_berths d_goal a_shown a_calm a_windy a_turns a_many a_ever c_at c_past c_known i_at i_past i_known j_at j_past j_known x_kept x_cb x_ct x_chalked x_traced)) : tg_G X D 2 0 0 (tw_X D h0 x0 t0 t1 t2 r0 e0 e1 e2 rt z0 b0 b1 b2 b3 b4 c0 c1 c2 m0 i0 i1 i2 j0 j1 j2 k0 k1 k2 x_text x_typed t_pips t_many t_berths t_goal r_fault r_length r_kind r_start r_next r_number r_dice r_bt r_gt d_pips d_many d_berths d_goal a_shown a_calm a_windy a_turns a_many a_ever c_at c_past c_known i_at i_past i_known j_at j_past j_known x_kept x_cb x_ct x_chalked x_traced) [(0, .ref h0), (1, .int p1)] 0 [] := by
  unfold fX4_isBerth at hs
  refine tg_iload_n C dX4_isBerth_0 rfl 1 rfl ?_
  refine tg_iconst (v := 1) C dX4_isBerth_1 (by decide) ?_
  refine tg_icmp_lt (tgt := 20) C dX4_isBerth_2 (by decide) (fun cc1 => ?_) (fun cc1 => ?_)
  · have hs := tg_t cc1 hs
    refine tg_iconst (v := 0) C dX4_isBerth_20 (by decide) ?_
    obtain rfl := Option.some.inj hs
    exact tg_iret hE rfl dX4_isBerth_21
  · have hs := tg_f cc1 hs
    refine tg_iload_n C dX4_isBerth_5 rfl 1 rfl ?_
    refine tg_aload_n C dX4_isBerth_6 rfl 0 rfl ?_
    refine tg_get (v := .ref t0) C cfX4 0 rfl 2 (by decide) wm_241 rfl dX4_isBerth_7 ?_
    refine tg_get (v := .int t_berths) C cfX3 2 rfl 2 (by decide) wm_97 rfl dX4_isBerth_10 ?_
    refine tg_icmp_gt (tgt := 20) C dX4_isBerth_13 (by decide) (fun cc2 => ?_) (fun cc2 => ?_)
    · have hs := tg_t cc2 hs
      refine tg_iconst (v := 0) C dX4_isBerth_20 (by decide) ?_
      obtain rfl := Option.some.inj hs
      exact tg_iret hE rfl dX4_isBerth_21
    · have hs := tg_f cc2 hs
      refine tg_iconst (v := 1) C dX4_isBerth_16 (by decide) ?_
      refine tg_goto (tgt := 21) C dX4_isBerth_17 (by decide) ?_
      obtain rfl := Option.some.inj hs
      exact tg_iret hE rfl dX4_isBerth_21
set_option maxHeartbeats 2000000 in
set_option maxRecDepth 20000 in
theorem kX4_isBerth (l : Launch) (D : tg_D) (h0 x0 t0 t1 t2 r0 e0 e1 e2 rt z0 b0 b1 b2 b3 b4 c0 c1 c2 m0 i0 i1 i2 j0 j1 j2 k0 k1 k2 : Nat) (x_text : Nat → Int32) (x_typed : Int32) (t_pips : Nat → Int32) (t_many : Nat → Int32) (t_berths : Int32) (t_goal : Int32) (r_fault : Int32) (r_length : Int32) (r_kind : Int32) (r_start : Int32) (r_next : Int32) (r_number : Int32) (r_dice : Int32) (r_bt : Int32) (r_gt : Int32) (d_pips : Nat → Int32) (d_many : Nat → Int32) (d_berths : Int32) (d_goal : Int32) (a_shown : Nat → Int32) (a_calm : Nat → Int32) (a_windy : Nat → Int32) (a_turns : Nat → Int32) (a_many : Int32) (a_ever : Int32) (c_at : Nat → Int32) (c_past : Nat → Int32) (c_known : Int32) (i_at : Nat → Int32) (i_past : Nat → Int32) (i_known : Int32) (j_at : Nat → Int32) (j_past : Nat → Int32) (j_known : Int32) (x_kept : Nat → Int32) (x_cb : Nat → Int32) (x_ct : Nat → Int32) (x_chalked : Int32) (x_traced : Int64) (p1 : Int32) (r : Int32) (hs : fX4_isBerth t_berths p1 = some r) : Met l yX4_isBerth [Cond.code yX4_isBerth cX4_isBerth 2 (some .boolean)] (tg_rm 0 0) (tg_Pre D (tw_X D h0 x0 t0 t1 t2 r0 e0 e1 e2 rt z0 b0 b1 b2 b3 b4 c0 c1 c2 m0 i0 i1 i2 j0 j1 j2 k0 k1 k2 x_text x_typed t_pips t_many t_berths t_goal r_fault r_length r_kind r_start r_next r_number r_dice r_bt r_gt d_pips d_many d_berths d_goal a_shown a_calm a_windy a_turns a_many a_ever c_at c_past c_known i_at i_past i_known j_at j_past j_known x_kept x_cb x_ct x_chalked x_traced) [.ref h0, .int p1]) (vp_Si (fun r' => r' = r)) 0 0 (fun _ => False) := tg_metI (by decide) (Nat.le_of_ble_eq_true rfl) (fun X hl0 C hE => vX4_isBerth l D h0 x0 t0 t1 t2 r0 e0 e1 e2 rt z0 b0 b1 b2 b3 b4 c0 c1 c2 m0 i0 i1 i2 j0 j1 j2 k0 k1 k2 x_text x_typed t_pips t_many t_berths t_goal r_fault r_length r_kind r_start r_next r_number r_dice r_bt r_gt d_pips d_many d_berths d_goal a_shown a_calm a_windy a_turns a_many a_ever c_at c_past c_known i_at i_past i_known j_at j_past j_known x_kept x_cb x_ct x_chalked x_traced p1 X hl0 C r hs hE)
def fX4_berth (t_berths : Int32) (c_at : Nat → Int32) (p1 : Int32) : Option (Int32) := tg_b1 (fX4_isBerth t_berths p1) fun rr1 => if rr1 = 0 then (some (-1)) else (tg_b1 (fX1_owner c_at p1) fun rr4 => some rr4)
set_option maxHeartbeats 2000000 in
set_option maxRecDepth 20000 in
theorem vX4_berth (l : Launch) (D : tg_D) (h0 x0 t0 t1 t2 r0 e0 e1 e2 rt z0 b0 b1 b2 b3 b4 c0 c1 c2 m0 i0 i1 i2 j0 j1 j2 k0 k1 k2 : Nat) (x_text : Nat → Int32) (x_typed : Int32) (t_pips : Nat → Int32) (t_many : Nat → Int32) (t_berths : Int32) (t_goal : Int32) (r_fault : Int32) (r_length : Int32) (r_kind : Int32) (r_start : Int32) (r_next : Int32) (r_number : Int32) (r_dice : Int32) (r_bt : Int32) (r_gt : Int32) (d_pips : Nat → Int32) (d_many : Nat → Int32) (d_berths : Int32) (d_goal : Int32) (a_shown : Nat → Int32) (a_calm : Nat → Int32) (a_windy : Nat → Int32) (a_turns : Nat → Int32) (a_many : Int32) (a_ever : Int32) (c_at : Nat → Int32) (c_past : Nat → Int32) (c_known : Int32) (i_at : Nat → Int32) (i_past : Nat → Int32) (i_known : Int32) (j_at : Nat → Int32) (j_past : Nat → Int32) (j_known : Int32) (x_kept : Nat → Int32) (x_cb : Nat → Int32) (x_ct : Nat → Int32) (x_chalked : Int32) (x_traced : Int64) (p1 : Int32) (X : tg_X) (hl0 : tg_l X = l) (C : tg_C X D 2 cX4_berth RX4 3 63 0 0) (r : Int32) (hs : fX4_berth t_berths c_at p1 = some r) (hE : tg_Ei X D 0 0 cX4_berth .int r (tw_X D h0 x0 t0 t1 t2 r0 e0 e1 e2 rt z0 b0 b1 b2 b3 b4 c0 c1 c2 m0 i0 i1 i2 j0 j1 j2 k0 k1 k2 x_text x_typed t_pips t_many t_berths t_goal r_fault r_length r_kind r_start r_next r_number r_dice r_bt r_gt d_pips d_many d_berths d_goal a_shown a_calm a_windy a_turns a_many a_ever c_at c_past c_known i_at i_past i_known j_at j_past j_known x_kept x_cb x_ct x_chalked x_traced)) : tg_G X D 2 0 0 (tw_X D h0 x0 t0 t1 t2 r0 e0 e1 e2 rt z0 b0 b1 b2 b3 b4 c0 c1 c2 m0 i0 i1 i2 j0 j1 j2 k0 k1 k2 x_text x_typed t_pips t_many t_berths t_goal r_fault r_length r_kind r_start r_next r_number r_dice r_bt r_gt d_pips d_many d_berths d_goal a_shown a_calm a_windy a_turns a_many a_ever c_at c_past c_known i_at i_past i_known j_at j_past j_known x_kept x_cb x_ct x_chalked x_traced) [(0, .ref h0), (1, .int p1)] 0 [] := by
  unfold fX4_berth at hs
  refine tg_aload_n C dX4_berth_0 rfl 0 rfl ?_
  refine tg_iload_n C dX4_berth_1 rfl 1 rfl ?_
  obtain ⟨rr1, ee2, hs⟩ := tg_b1_e hs
  refine tg_pVs (As := [.int p1]) (rest := []) C hl0 (kX4_isBerth l D h0 x0 t0 t1 t2 r0 e0 e1 e2 rt z0 b0 b1 b2 b3 b4 c0 c1 c2 m0 i0 i1 i2 j0 j1 j2 k0 k1 k2 x_text x_typed t_pips t_many t_berths t_goal r_fault r_length r_kind r_start r_next r_number r_dice r_bt r_gt d_pips d_many d_berths d_goal a_shown a_calm a_windy a_turns a_many a_ever c_at c_past c_known i_at i_past i_known j_at j_past j_known x_kept x_cb x_ct x_chalked x_traced p1 rr1 ee2) wm_360 meX4_isBerth (by decide) rfl rfl rfl rfl (Nat.le_of_ble_eq_true rfl) dX4_berth_2 ?_
  refine tg_if_eq (tgt := 19) C dX4_berth_5 (by decide) (fun cc3 => ?_) (fun cc3 => ?_)
  · have hs := tg_t cc3 hs
    refine tg_iconst (v := (-1)) C dX4_berth_19 (by decide) ?_
    obtain rfl := Option.some.inj hs
    exact tg_iret hE rfl dX4_berth_20
  · have hs := tg_f cc3 hs
    refine tg_aload_n C dX4_berth_8 rfl 0 rfl ?_
    refine tg_get (v := .ref c0) C cfX4 0 rfl 5 (by decide) wm_244 rfl dX4_berth_9 ?_
    refine tg_iload_n C dX4_berth_12 rfl 1 rfl ?_
    obtain ⟨rr4, ee5, hs⟩ := tg_b1_e hs
    refine tg_pV (As := [.int p1]) (rest := []) C hl0 (kX1_owner l D c0 c1 c2 t0 t1 t2 c_at c_past c_known t_pips t_many t_berths t_goal p1 rr4 ee5) wm_364 meX1_owner (by decide) [15, 16, 17, 2, 3, 4] rfl (by decide) rfl rfl rfl rfl (Nat.le_of_ble_eq_true rfl) dX4_berth_13 ?_
    refine tg_goto (tgt := 20) C dX4_berth_16 (by decide) ?_
    obtain rfl := Option.some.inj hs
    exact tg_iret hE rfl dX4_berth_20
set_option maxHeartbeats 2000000 in
set_option maxRecDepth 20000 in
theorem kX4_berth (l : Launch) (D : tg_D) (h0 x0 t0 t1 t2 r0 e0 e1 e2 rt z0 b0 b1 b2 b3 b4 c0 c1 c2 m0 i0 i1 i2 j0 j1 j2 k0 k1 k2 : Nat) (x_text : Nat → Int32) (x_typed : Int32) (t_pips : Nat → Int32) (t_many : Nat → Int32) (t_berths : Int32) (t_goal : Int32) (r_fault : Int32) (r_length : Int32) (r_kind : Int32) (r_start : Int32) (r_next : Int32) (r_number : Int32) (r_dice : Int32) (r_bt : Int32) (r_gt : Int32) (d_pips : Nat → Int32) (d_many : Nat → Int32) (d_berths : Int32) (d_goal : Int32) (a_shown : Nat → Int32) (a_calm : Nat → Int32) (a_windy : Nat → Int32) (a_turns : Nat → Int32) (a_many : Int32) (a_ever : Int32) (c_at : Nat → Int32) (c_past : Nat → Int32) (c_known : Int32) (i_at : Nat → Int32) (i_past : Nat → Int32) (i_known : Int32) (j_at : Nat → Int32) (j_past : Nat → Int32) (j_known : Int32) (x_kept : Nat → Int32) (x_cb : Nat → Int32) (x_ct : Nat → Int32) (x_chalked : Int32) (x_traced : Int64) (p1 : Int32) (r : Int32) (hs : fX4_berth t_berths c_at p1 = some r) : Met l yX4_berth [Cond.code yX4_berth cX4_berth 2 (some .int)] (tg_rm 3 63) (tg_Pre D (tw_X D h0 x0 t0 t1 t2 r0 e0 e1 e2 rt z0 b0 b1 b2 b3 b4 c0 c1 c2 m0 i0 i1 i2 j0 j1 j2 k0 k1 k2 x_text x_typed t_pips t_many t_berths t_goal r_fault r_length r_kind r_start r_next r_number r_dice r_bt r_gt d_pips d_many d_berths d_goal a_shown a_calm a_windy a_turns a_many a_ever c_at c_past c_known i_at i_past i_known j_at j_past j_known x_kept x_cb x_ct x_chalked x_traced) [.ref h0, .int p1]) (vp_Si (fun r' => r' = r)) 0 0 (fun _ => False) := tg_metI (by decide) (Nat.le_of_ble_eq_true rfl) (fun X hl0 C hE => vX4_berth l D h0 x0 t0 t1 t2 r0 e0 e1 e2 rt z0 b0 b1 b2 b3 b4 c0 c1 c2 m0 i0 i1 i2 j0 j1 j2 k0 k1 k2 x_text x_typed t_pips t_many t_berths t_goal r_fault r_length r_kind r_start r_next r_number r_dice r_bt r_gt d_pips d_many d_berths d_goal a_shown a_calm a_windy a_turns a_many a_ever c_at c_past c_known i_at i_past i_known j_at j_past j_known x_kept x_cb x_ct x_chalked x_traced p1 X hl0 C r hs hE)
