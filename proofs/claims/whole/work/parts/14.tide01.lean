def fX4_raceOf (t_goal : Int32) (a_ever : Int32) (c_at : Nat → Int32) (p1 : Int32) : Option (Int32) := tg_b1 (fX1_berthsOf c_at p1) fun rr1 => tg_b1 (fJ6_bitCount_0f7a4 rr1) fun rr3 => tg_nm (t_goal - rr3) fun vv5 => if 0 < vv5 then (tg_b1 (fX1_free c_at) fun rr7 => tg_b1 (fJ6_bitCount_0f7a4 (a_ever &&& rr7)) fun rr9 => if vv5 ≤ rr9 then (some vv5) else (some (-9))) else (some 0)
set_option maxHeartbeats 2000000 in
set_option maxRecDepth 20000 in
theorem vX4_raceOf (l : Launch) (D : tg_D) (h0 x0 t0 t1 t2 r0 e0 e1 e2 rt z0 b0 b1 b2 b3 b4 c0 c1 c2 m0 i0 i1 i2 j0 j1 j2 k0 k1 k2 : Nat) (x_text : Nat → Int32) (x_typed : Int32) (t_pips : Nat → Int32) (t_many : Nat → Int32) (t_berths : Int32) (t_goal : Int32) (r_fault : Int32) (r_length : Int32) (r_kind : Int32) (r_start : Int32) (r_next : Int32) (r_number : Int32) (r_dice : Int32) (r_bt : Int32) (r_gt : Int32) (d_pips : Nat → Int32) (d_many : Nat → Int32) (d_berths : Int32) (d_goal : Int32) (a_shown : Nat → Int32) (a_calm : Nat → Int32) (a_windy : Nat → Int32) (a_turns : Nat → Int32) (a_many : Int32) (a_ever : Int32) (c_at : Nat → Int32) (c_past : Nat → Int32) (c_known : Int32) (i_at : Nat → Int32) (i_past : Nat → Int32) (i_known : Int32) (j_at : Nat → Int32) (j_past : Nat → Int32) (j_known : Int32) (x_kept : Nat → Int32) (x_cb : Nat → Int32) (x_ct : Nat → Int32) (x_chalked : Int32) (x_traced : Int64) (p1 : Int32) (X : tg_X) (hl0 : tg_l X = l) (C : tg_C X D 3 cX4_raceOf RX4 3 61 0 0) (r : Int32) (hs : fX4_raceOf t_goal a_ever c_at p1 = some r) (hE : tg_Ei X D 0 0 cX4_raceOf .int r (tw_X D h0 x0 t0 t1 t2 r0 e0 e1 e2 rt z0 b0 b1 b2 b3 b4 c0 c1 c2 m0 i0 i1 i2 j0 j1 j2 k0 k1 k2 x_text x_typed t_pips t_many t_berths t_goal r_fault r_length r_kind r_start r_next r_number r_dice r_bt r_gt d_pips d_many d_berths d_goal a_shown a_calm a_windy a_turns a_many a_ever c_at c_past c_known i_at i_past i_known j_at j_past j_known x_kept x_cb x_ct x_chalked x_traced)) : tg_G X D 3 0 0 (tw_X D h0 x0 t0 t1 t2 r0 e0 e1 e2 rt z0 b0 b1 b2 b3 b4 c0 c1 c2 m0 i0 i1 i2 j0 j1 j2 k0 k1 k2 x_text x_typed t_pips t_many t_berths t_goal r_fault r_length r_kind r_start r_next r_number r_dice r_bt r_gt d_pips d_many d_berths d_goal a_shown a_calm a_windy a_turns a_many a_ever c_at c_past c_known i_at i_past i_known j_at j_past j_known x_kept x_cb x_ct x_chalked x_traced) [(0, .ref h0), (1, .int p1)] 0 [] := by
  unfold fX4_raceOf at hs
  refine tg_aload_n C dX4_raceOf_0 rfl 0 rfl ?_
  refine tg_get (v := .ref t0) C cfX4 0 rfl 2 (by decide) wm_241 rfl dX4_raceOf_1 ?_
  refine tg_get (v := .int t_goal) C cfX3 2 rfl 3 (by decide) wm_101 rfl dX4_raceOf_4 ?_
  refine tg_aload_n C dX4_raceOf_7 rfl 0 rfl ?_
  refine tg_get (v := .ref c0) C cfX4 0 rfl 5 (by decide) wm_244 rfl dX4_raceOf_8 ?_
  refine tg_iload_n C dX4_raceOf_11 rfl 1 rfl ?_
  obtain ⟨rr1, ee2, hs⟩ := tg_b1_e hs
  refine tg_pV (As := [.int p1]) (rest := [.int t_goal]) C hl0 (kX1_berthsOf l D c0 c1 c2 t0 t1 t2 c_at c_past c_known t_pips t_many t_berths t_goal p1 rr1 ee2) wm_380 meX1_berthsOf (by decide) [15, 16, 17, 2, 3, 4] rfl (by decide) rfl rfl rfl rfl (Nat.le_of_ble_eq_true rfl) dX4_raceOf_12 ?_
  obtain ⟨rr3, ee4, hs⟩ := tg_b1_e hs
  refine tg_pS (As := [.int rr1]) (rest := [.int t_goal]) C hl0 (kJ6_bitCount_0f7a4 l D rr1 rr3 ee4) wm_393 meJ6_bitCount_0f7a4 (by decide) rfl rfl (Nat.le_of_ble_eq_true rfl) dX4_raceOf_15 ?_
  refine tg_isub C dX4_raceOf_18 ?_
  obtain ⟨vv5, evv5, hs⟩ := tg_nm_e hs
  refine tg_topi evv5 ?_
  refine tg_istore_n (lv' := [(2, .int vv5), (0, .ref h0), (1, .int p1)]) C dX4_raceOf_19 rfl (by decide) rfl ?_
  refine tg_iload_n C dX4_raceOf_20 rfl 0 rfl ?_
  refine tg_if_gt (tgt := 26) C dX4_raceOf_21 (by decide) (fun cc6 => ?_) (fun cc6 => ?_)
  · have hs := tg_t cc6 hs
    refine tg_aload_n C dX4_raceOf_26 rfl 1 rfl ?_
    refine tg_get (v := .ref b0) C cfX4 0 rfl 4 (by decide) wm_243 rfl dX4_raceOf_27 ?_
    refine tg_get (v := .int a_ever) C cfX0 10 rfl 5 (by decide) wm_170 rfl dX4_raceOf_30 ?_
    refine tg_aload_n C dX4_raceOf_33 rfl 1 rfl ?_
    refine tg_get (v := .ref c0) C cfX4 0 rfl 5 (by decide) wm_244 rfl dX4_raceOf_34 ?_
    obtain ⟨rr7, ee8, hs⟩ := tg_b1_e hs
    refine tg_pV (As := []) (rest := [.int a_ever]) C hl0 (kX1_free l D c0 c1 c2 t0 t1 t2 c_at c_past c_known t_pips t_many t_berths t_goal rr7 ee8) wm_399 meX1_free (by decide) [15, 16, 17, 2, 3, 4] rfl (by decide) rfl rfl rfl rfl (Nat.le_of_ble_eq_true rfl) dX4_raceOf_37 ?_
    refine tg_iand C dX4_raceOf_40 ?_
    obtain ⟨rr9, ee10, hs⟩ := tg_b1_e hs
    refine tg_pS (As := [.int (a_ever &&& rr7)]) (rest := []) C hl0 (kJ6_bitCount_0f7a4 l D (a_ever &&& rr7) rr9 ee10) wm_393 meJ6_bitCount_0f7a4 (by decide) rfl rfl (Nat.le_of_ble_eq_true rfl) dX4_raceOf_41 ?_
    refine tg_iload_n C dX4_raceOf_44 rfl 0 rfl ?_
    refine tg_icmp_ge (tgt := 53) C dX4_raceOf_45 (by decide) (fun cc11 => ?_) (fun cc11 => ?_)
    · have hs := tg_t cc11 hs
      refine tg_iload_n C dX4_raceOf_53 rfl 0 rfl ?_
      obtain rfl := Option.some.inj hs
      exact tg_iret hE rfl dX4_raceOf_54
    · have hs := tg_f cc11 hs
      refine tg_bipush (v := (-9)) C dX4_raceOf_48 (by decide) ?_
      refine tg_goto (tgt := 54) C dX4_raceOf_50 (by decide) ?_
      obtain rfl := Option.some.inj hs
      exact tg_iret hE rfl dX4_raceOf_54
  · have hs := tg_f cc6 hs
    refine tg_iconst (v := 0) C dX4_raceOf_24 (by decide) ?_
    obtain rfl := Option.some.inj hs
    exact tg_iret hE rfl dX4_raceOf_25
set_option maxHeartbeats 2000000 in
set_option maxRecDepth 20000 in
theorem kX4_raceOf (l : Launch) (D : tg_D) (h0 x0 t0 t1 t2 r0 e0 e1 e2 rt z0 b0 b1 b2 b3 b4 c0 c1 c2 m0 i0 i1 i2 j0 j1 j2 k0 k1 k2 : Nat) (x_text : Nat → Int32) (x_typed : Int32) (t_pips : Nat → Int32) (t_many : Nat → Int32) (t_berths : Int32) (t_goal : Int32) (r_fault : Int32) (r_length : Int32) (r_kind : Int32) (r_start : Int32) (r_next : Int32) (r_number : Int32) (r_dice : Int32) (r_bt : Int32) (r_gt : Int32) (d_pips : Nat → Int32) (d_many : Nat → Int32) (d_berths : Int32) (d_goal : Int32) (a_shown : Nat → Int32) (a_calm : Nat → Int32) (a_windy : Nat → Int32) (a_turns : Nat → Int32) (a_many : Int32) (a_ever : Int32) (c_at : Nat → Int32) (c_past : Nat → Int32) (c_known : Int32) (i_at : Nat → Int32) (i_past : Nat → Int32) (i_known : Int32) (j_at : Nat → Int32) (j_past : Nat → Int32) (j_known : Int32) (x_kept : Nat → Int32) (x_cb : Nat → Int32) (x_ct : Nat → Int32) (x_chalked : Int32) (x_traced : Int64) (p1 : Int32) (r : Int32) (hs : fX4_raceOf t_goal a_ever c_at p1 = some r) : Met l yX4_raceOf [Cond.code yX4_raceOf cX4_raceOf 3 (some .int)] (tg_rm 3 61) (tg_Pre D (tw_X D h0 x0 t0 t1 t2 r0 e0 e1 e2 rt z0 b0 b1 b2 b3 b4 c0 c1 c2 m0 i0 i1 i2 j0 j1 j2 k0 k1 k2 x_text x_typed t_pips t_many t_berths t_goal r_fault r_length r_kind r_start r_next r_number r_dice r_bt r_gt d_pips d_many d_berths d_goal a_shown a_calm a_windy a_turns a_many a_ever c_at c_past c_known i_at i_past i_known j_at j_past j_known x_kept x_cb x_ct x_chalked x_traced) [.ref h0, .int p1]) (vp_Si (fun r' => r' = r)) 0 0 (fun _ => False) := tg_metI (by decide) (Nat.le_of_ble_eq_true rfl) (fun X hl0 C hE => vX4_raceOf l D h0 x0 t0 t1 t2 r0 e0 e1 e2 rt z0 b0 b1 b2 b3 b4 c0 c1 c2 m0 i0 i1 i2 j0 j1 j2 k0 k1 k2 x_text x_typed t_pips t_many t_berths t_goal r_fault r_length r_kind r_start r_next r_number r_dice r_bt r_gt d_pips d_many d_berths d_goal a_shown a_calm a_windy a_turns a_many a_ever c_at c_past c_known i_at i_past i_known j_at j_past j_known x_kept x_cb x_ct x_chalked x_traced p1 X hl0 C r hs hE)
def fX4_player (t_goal : Int32) (a_ever : Int32) (c_at : Nat → Int32) (p1 : Int32) (p2 : Int32) : Option (Int32) := if p1 < 0 then (some (-1)) else (if p1 < 2 then (if p2 = 0 then (tg_b1 (fX1_berthsOf c_at p1) fun rr4 => some rr4) else (if p2 = 1 then (tg_b1 (fX1_tidesOf c_at p1) fun rr7 => some rr7) else (if p2 = 2 then (tg_b1 (fX1_isBlind c_at p1) fun rr10 => if rr10 = 0 then (some 0) else (some 1)) else (if p2 = 3 then (tg_b1 (fX4_raceOf t_goal a_ever c_at p1) fun rr14 => some rr14) else (some (-1)))))) else (some (-1)))
set_option maxHeartbeats 2000000 in
set_option maxRecDepth 20000 in
theorem vX4_player (l : Launch) (D : tg_D) (h0 x0 t0 t1 t2 r0 e0 e1 e2 rt z0 b0 b1 b2 b3 b4 c0 c1 c2 m0 i0 i1 i2 j0 j1 j2 k0 k1 k2 : Nat) (x_text : Nat → Int32) (x_typed : Int32) (t_pips : Nat → Int32) (t_many : Nat → Int32) (t_berths : Int32) (t_goal : Int32) (r_fault : Int32) (r_length : Int32) (r_kind : Int32) (r_start : Int32) (r_next : Int32) (r_number : Int32) (r_dice : Int32) (r_bt : Int32) (r_gt : Int32) (d_pips : Nat → Int32) (d_many : Nat → Int32) (d_berths : Int32) (d_goal : Int32) (a_shown : Nat → Int32) (a_calm : Nat → Int32) (a_windy : Nat → Int32) (a_turns : Nat → Int32) (a_many : Int32) (a_ever : Int32) (c_at : Nat → Int32) (c_past : Nat → Int32) (c_known : Int32) (i_at : Nat → Int32) (i_past : Nat → Int32) (i_known : Int32) (j_at : Nat → Int32) (j_past : Nat → Int32) (j_known : Int32) (x_kept : Nat → Int32) (x_cb : Nat → Int32) (x_ct : Nat → Int32) (x_chalked : Int32) (x_traced : Int64) (p1 : Int32) (p2 : Int32) (X : tg_X) (hl0 : tg_l X = l) (C : tg_C X D 3 cX4_player RX4 4 83 0 0) (r : Int32) (hs : fX4_player t_goal a_ever c_at p1 p2 = some r) (hE : tg_Ei X D 0 0 cX4_player .int r (tw_X D h0 x0 t0 t1 t2 r0 e0 e1 e2 rt z0 b0 b1 b2 b3 b4 c0 c1 c2 m0 i0 i1 i2 j0 j1 j2 k0 k1 k2 x_text x_typed t_pips t_many t_berths t_goal r_fault r_length r_kind r_start r_next r_number r_dice r_bt r_gt d_pips d_many d_berths d_goal a_shown a_calm a_windy a_turns a_many a_ever c_at c_past c_known i_at i_past i_known j_at j_past j_known x_kept x_cb x_ct x_chalked x_traced)) : tg_G X D 3 0 0 (tw_X D h0 x0 t0 t1 t2 r0 e0 e1 e2 rt z0 b0 b1 b2 b3 b4 c0 c1 c2 m0 i0 i1 i2 j0 j1 j2 k0 k1 k2 x_text x_typed t_pips t_many t_berths t_goal r_fault r_length r_kind r_start r_next r_number r_dice r_bt r_gt d_pips d_many d_berths d_goal a_shown a_calm a_windy a_turns a_many a_ever c_at c_past c_known i_at i_past i_known j_at j_past j_known x_kept x_cb x_ct x_chalked x_traced) [(0, .ref h0), (1, .int p1), (2, .int p2)] 0 [] := by
  unfold fX4_player at hs
  refine tg_iload_n C dX4_player_0 rfl 1 rfl ?_
  refine tg_if_lt (tgt := 9) C dX4_player_1 (by decide) (fun cc1 => ?_) (fun cc1 => ?_)
  · have hs := tg_t cc1 hs
    refine tg_iconst (v := (-1)) C dX4_player_9 (by decide) ?_
    obtain rfl := Option.some.inj hs
    exact tg_iret hE rfl dX4_player_10
  · have hs := tg_f cc1 hs
    refine tg_iload_n C dX4_player_4 rfl 1 rfl ?_
    refine tg_iconst (v := 2) C dX4_player_5 (by decide) ?_
    refine tg_icmp_lt (tgt := 11) C dX4_player_6 (by decide) (fun cc2 => ?_) (fun cc2 => ?_)
    · have hs := tg_t cc2 hs
      refine tg_iload_n C dX4_player_11 rfl 2 rfl ?_
      by_cases ss3 : p2 = 0
      · have hs := tg_t ss3 hs
        refine tg_swIn (off := 32) (tgt := 44) C 0 ss3 dX4_player_12 (by decide) (by decide) ?_
        refine tg_aload_n C dX4_player_44 rfl 0 rfl ?_
        refine tg_get (v := .ref c0) C cfX4 0 rfl 5 (by decide) wm_244 rfl dX4_player_45 ?_
        refine tg_iload_n C dX4_player_48 rfl 1 rfl ?_
        obtain ⟨rr4, ee5, hs⟩ := tg_b1_e hs
        refine tg_pV (As := [.int p1]) (rest := []) C hl0 (kX1_berthsOf l D c0 c1 c2 t0 t1 t2 c_at c_past c_known t_pips t_many t_berths t_goal p1 rr4 ee5) wm_380 meX1_berthsOf (by decide) [15, 16, 17, 2, 3, 4] rfl (by decide) rfl rfl rfl rfl (Nat.le_of_ble_eq_true rfl) dX4_player_49 ?_
        obtain rfl := Option.some.inj hs
        exact tg_iret hE rfl dX4_player_52
      · have hs := tg_f ss3 hs
        by_cases ss6 : p2 = 1
        · have hs := tg_t ss6 hs
          refine tg_swIn (off := 41) (tgt := 53) C 1 ss6 dX4_player_12 (by decide) (by decide) ?_
          refine tg_aload_n C dX4_player_53 rfl 0 rfl ?_
          refine tg_get (v := .ref c0) C cfX4 0 rfl 5 (by decide) wm_244 rfl dX4_player_54 ?_
          refine tg_iload_n C dX4_player_57 rfl 1 rfl ?_
          obtain ⟨rr7, ee8, hs⟩ := tg_b1_e hs
          refine tg_pV (As := [.int p1]) (rest := []) C hl0 (kX1_tidesOf l D c0 c1 c2 t0 t1 t2 c_at c_past c_known t_pips t_many t_berths t_goal p1 rr7 ee8) wm_381 meX1_tidesOf (by decide) [15, 16, 17, 2, 3, 4] rfl (by decide) rfl rfl rfl rfl (Nat.le_of_ble_eq_true rfl) dX4_player_58 ?_
          obtain rfl := Option.some.inj hs
          exact tg_iret hE rfl dX4_player_61
        · have hs := tg_f ss6 hs
          by_cases ss9 : p2 = 2
          · have hs := tg_t ss9 hs
            refine tg_swIn (off := 50) (tgt := 62) C 2 ss9 dX4_player_12 (by decide) (by decide) ?_
            refine tg_aload_n C dX4_player_62 rfl 0 rfl ?_
            refine tg_get (v := .ref c0) C cfX4 0 rfl 5 (by decide) wm_244 rfl dX4_player_63 ?_
            refine tg_iload_n C dX4_player_66 rfl 1 rfl ?_
            obtain ⟨rr10, ee11, hs⟩ := tg_b1_e hs
            refine tg_pV (As := [.int p1]) (rest := []) C hl0 (kX1_isBlind l D c0 c1 c2 t0 t1 t2 c_at c_past c_known t_pips t_many t_berths t_goal p1 rr10 ee11) wm_385 meX1_isBlind (by decide) [15, 16, 17, 2, 3, 4] rfl (by decide) rfl rfl rfl rfl (Nat.le_of_ble_eq_true rfl) dX4_player_67 ?_
            refine tg_if_eq (tgt := 77) C dX4_player_70 (by decide) (fun cc12 => ?_) (fun cc12 => ?_)
            · have hs := tg_t cc12 hs
              refine tg_iconst (v := 0) C dX4_player_77 (by decide) ?_
              obtain rfl := Option.some.inj hs
              exact tg_iret hE rfl dX4_player_78
            · have hs := tg_f cc12 hs
              refine tg_iconst (v := 1) C dX4_player_73 (by decide) ?_
              refine tg_goto (tgt := 78) C dX4_player_74 (by decide) ?_
              obtain rfl := Option.some.inj hs
              exact tg_iret hE rfl dX4_player_78
          · have hs := tg_f ss9 hs
            by_cases ss13 : p2 = 3
            · have hs := tg_t ss13 hs
              refine tg_swIn (off := 67) (tgt := 79) C 3 ss13 dX4_player_12 (by decide) (by decide) ?_
              refine tg_aload_n C dX4_player_79 rfl 0 rfl ?_
              refine tg_iload_n C dX4_player_80 rfl 1 rfl ?_
              obtain ⟨rr14, ee15, hs⟩ := tg_b1_e hs
              refine tg_pVs (As := [.int p1]) (rest := []) C hl0 (kX4_raceOf l D h0 x0 t0 t1 t2 r0 e0 e1 e2 rt z0 b0 b1 b2 b3 b4 c0 c1 c2 m0 i0 i1 i2 j0 j1 j2 k0 k1 k2 x_text x_typed t_pips t_many t_berths t_goal r_fault r_length r_kind r_start r_next r_number r_dice r_bt r_gt d_pips d_many d_berths d_goal a_shown a_calm a_windy a_turns a_many a_ever c_at c_past c_known i_at i_past i_known j_at j_past j_known x_kept x_cb x_ct x_chalked x_traced p1 rr14 ee15) wm_389 meX4_raceOf (by decide) rfl rfl rfl rfl (Nat.le_of_ble_eq_true rfl) dX4_player_81 ?_
              obtain rfl := Option.some.inj hs
              exact tg_iret hE rfl dX4_player_84
            · have hs := tg_f ss13 hs
              refine tg_swOut (tgt := 85) C (by have a0 := lv_neT (a := 0) ss3 rfl; have a1 := lv_neT (a := 1) ss6 rfl; have a2 := lv_neT (a := 2) ss9 rfl; have a3 := lv_neT (a := 3) ss13 rfl; omega) dX4_player_12 (by decide) ?_
              refine tg_iconst (v := (-1)) C dX4_player_85 (by decide) ?_
              obtain rfl := Option.some.inj hs
              exact tg_iret hE rfl dX4_player_86
    · have hs := tg_f cc2 hs
      refine tg_iconst (v := (-1)) C dX4_player_9 (by decide) ?_
      obtain rfl := Option.some.inj hs
      exact tg_iret hE rfl dX4_player_10
set_option maxHeartbeats 2000000 in
set_option maxRecDepth 20000 in
theorem kX4_player (l : Launch) (D : tg_D) (h0 x0 t0 t1 t2 r0 e0 e1 e2 rt z0 b0 b1 b2 b3 b4 c0 c1 c2 m0 i0 i1 i2 j0 j1 j2 k0 k1 k2 : Nat) (x_text : Nat → Int32) (x_typed : Int32) (t_pips : Nat → Int32) (t_many : Nat → Int32) (t_berths : Int32) (t_goal : Int32) (r_fault : Int32) (r_length : Int32) (r_kind : Int32) (r_start : Int32) (r_next : Int32) (r_number : Int32) (r_dice : Int32) (r_bt : Int32) (r_gt : Int32) (d_pips : Nat → Int32) (d_many : Nat → Int32) (d_berths : Int32) (d_goal : Int32) (a_shown : Nat → Int32) (a_calm : Nat → Int32) (a_windy : Nat → Int32) (a_turns : Nat → Int32) (a_many : Int32) (a_ever : Int32) (c_at : Nat → Int32) (c_past : Nat → Int32) (c_known : Int32) (i_at : Nat → Int32) (i_past : Nat → Int32) (i_known : Int32) (j_at : Nat → Int32) (j_past : Nat → Int32) (j_known : Int32) (x_kept : Nat → Int32) (x_cb : Nat → Int32) (x_ct : Nat → Int32) (x_chalked : Int32) (x_traced : Int64) (p1 : Int32) (p2 : Int32) (r : Int32) (hs : fX4_player t_goal a_ever c_at p1 p2 = some r) : Met l yX4_player [Cond.code yX4_player cX4_player 3 (some .int)] (tg_rm 4 83) (tg_Pre D (tw_X D h0 x0 t0 t1 t2 r0 e0 e1 e2 rt z0 b0 b1 b2 b3 b4 c0 c1 c2 m0 i0 i1 i2 j0 j1 j2 k0 k1 k2 x_text x_typed t_pips t_many t_berths t_goal r_fault r_length r_kind r_start r_next r_number r_dice r_bt r_gt d_pips d_many d_berths d_goal a_shown a_calm a_windy a_turns a_many a_ever c_at c_past c_known i_at i_past i_known j_at j_past j_known x_kept x_cb x_ct x_chalked x_traced) [.ref h0, .int p1, .int p2]) (vp_Si (fun r' => r' = r)) 0 0 (fun _ => False) := tg_metI (by decide) (Nat.le_of_ble_eq_true rfl) (fun X hl0 C hE => vX4_player l D h0 x0 t0 t1 t2 r0 e0 e1 e2 rt z0 b0 b1 b2 b3 b4 c0 c1 c2 m0 i0 i1 i2 j0 j1 j2 k0 k1 k2 x_text x_typed t_pips t_many t_berths t_goal r_fault r_length r_kind r_start r_next r_number r_dice r_bt r_gt d_pips d_many d_berths d_goal a_shown a_calm a_windy a_turns a_many a_ever c_at c_past c_known i_at i_past i_known j_at j_past j_known x_kept x_cb x_ct x_chalked x_traced p1 p2 X hl0 C r hs hE)
def fX4_throwsDice (t_pips : Nat → Int32) (t_many : Nat → Int32) (t_berths : Int32) (t_goal : Int32) (c_at : Nat → Int32) (c_past : Nat → Int32) (c_known : Int32) (p1 : Int32) (p2 : Int32) (p3 : Int32) : Option (Int32 × (Nat → Int32) × (Nat → Int32) × Int32) := tg_b1 (fX3_hasPip t_pips t_many 0 p1) fun rr1 => if rr1 = 0 then (some ((-1), c_at, c_past, c_known)) else (tg_b1 (fX3_hasPip t_pips t_many 1 p2) fun rr4 => if rr4 = 0 then (some ((-1), c_at, c_past, c_known)) else (tg_b1 (fX3_hasPip t_pips t_many 2 p3) fun rr7 => if ¬ rr7 = 0 then (tg_b1 (fX1_lies c_at) fun rr10 => if ¬ rr10 = 0 then (some ((-2), c_at, c_past, c_known)) else (tg_b1 (fX1_winner c_at t_goal) fun rr13 => if rr13 = (-9) then (tg_b3 (fX1_cast c_at c_past c_known p1 p2 p3) fun gg16 gg17 vv18 => tg_b1 (fX1_open gg16 t_berths) fun rr20 => some (rr20, gg16, gg17, vv18)) else (some ((-2), c_at, c_past, c_known)))) else (some ((-1), c_at, c_past, c_known))))
set_option maxHeartbeats 2000000 in
set_option maxRecDepth 20000 in
theorem vX4_throwsDice (l : Launch) (D : tg_D) (h0 x0 t0 t1 t2 r0 e0 e1 e2 rt z0 b0 b1 b2 b3 b4 c0 c1 c2 m0 i0 i1 i2 j0 j1 j2 k0 k1 k2 : Nat) (x_text : Nat → Int32) (x_typed : Int32) (t_pips : Nat → Int32) (t_many : Nat → Int32) (t_berths : Int32) (t_goal : Int32) (r_fault : Int32) (r_length : Int32) (r_kind : Int32) (r_start : Int32) (r_next : Int32) (r_number : Int32) (r_dice : Int32) (r_bt : Int32) (r_gt : Int32) (d_pips : Nat → Int32) (d_many : Nat → Int32) (d_berths : Int32) (d_goal : Int32) (a_shown : Nat → Int32) (a_calm : Nat → Int32) (a_windy : Nat → Int32) (a_turns : Nat → Int32) (a_many : Int32) (a_ever : Int32) (c_at : Nat → Int32) (c_past : Nat → Int32) (c_known : Int32) (i_at : Nat → Int32) (i_past : Nat → Int32) (i_known : Int32) (j_at : Nat → Int32) (j_past : Nat → Int32) (j_known : Int32) (x_kept : Nat → Int32) (x_cb : Nat → Int32) (x_ct : Nat → Int32) (x_chalked : Int32) (x_traced : Int64) (p1 : Int32) (p2 : Int32) (p3 : Int32) (X : tg_X) (hl0 : tg_l X = l) (C : tg_C X D 4 cX4_throwsDice RX4 4 87 0 0) (V : tg_V X) (r : Int32) (q_c_at : Nat → Int32) (q_c_past : Nat → Int32) (q_c_known : Int32) (hs : fX4_throwsDice t_pips t_many t_berths t_goal c_at c_past c_known p1 p2 p3 = some (r, q_c_at, q_c_past, q_c_known)) (hE : tg_Ei X D 0 0 cX4_throwsDice .int r (tw_X D h0 x0 t0 t1 t2 r0 e0 e1 e2 rt z0 b0 b1 b2 b3 b4 c0 c1 c2 m0 i0 i1 i2 j0 j1 j2 k0 k1 k2 x_text x_typed t_pips t_many t_berths t_goal r_fault r_length r_kind r_start r_next r_number r_dice r_bt r_gt d_pips d_many d_berths d_goal a_shown a_calm a_windy a_turns a_many a_ever q_c_at q_c_past q_c_known i_at i_past i_known j_at j_past j_known x_kept x_cb x_ct x_chalked x_traced)) : tg_G X D 4 0 0 (tw_X D h0 x0 t0 t1 t2 r0 e0 e1 e2 rt z0 b0 b1 b2 b3 b4 c0 c1 c2 m0 i0 i1 i2 j0 j1 j2 k0 k1 k2 x_text x_typed t_pips t_many t_berths t_goal r_fault r_length r_kind r_start r_next r_number r_dice r_bt r_gt d_pips d_many d_berths d_goal a_shown a_calm a_windy a_turns a_many a_ever c_at c_past c_known i_at i_past i_known j_at j_past j_known x_kept x_cb x_ct x_chalked x_traced) [(0, .ref h0), (1, .int p1), (2, .int p2), (3, .int p3)] 0 [] := by
  unfold fX4_throwsDice at hs
  refine tg_aload_n C dX4_throwsDice_0 rfl 0 rfl ?_
  refine tg_get (v := .ref t0) C cfX4 0 rfl 2 (by decide) wm_241 rfl dX4_throwsDice_1 ?_
  refine tg_iconst (v := 0) C dX4_throwsDice_4 (by decide) ?_
  refine tg_iload_n C dX4_throwsDice_5 rfl 1 rfl ?_
  obtain ⟨rr1, ee2, hs⟩ := tg_b1_e hs
  refine tg_pV (As := [.int 0, .int p1]) (rest := []) C hl0 (kX3_hasPip l D t0 t1 t2 t_pips t_many t_berths t_goal 0 p1 rr1 ee2) wm_411 meX3_hasPip (by decide) [2, 3, 4] rfl (by decide) rfl rfl rfl rfl (Nat.le_of_ble_eq_true rfl) dX4_throwsDice_6 ?_
  refine tg_if_eq (tgt := 36) C dX4_throwsDice_9 (by decide) (fun cc3 => ?_) (fun cc3 => ?_)
  · have hs := tg_t cc3 hs
    refine tg_iconst (v := (-1)) C dX4_throwsDice_36 (by decide) ?_
    obtain ⟨rfl, rfl, rfl, rfl⟩ := tg_i4 hs
    exact tg_iret hE rfl dX4_throwsDice_37
  · have hs := tg_f cc3 hs
    refine tg_aload_n C dX4_throwsDice_12 rfl 0 rfl ?_
    refine tg_get (v := .ref t0) C cfX4 0 rfl 2 (by decide) wm_241 rfl dX4_throwsDice_13 ?_
    refine tg_iconst (v := 1) C dX4_throwsDice_16 (by decide) ?_
    refine tg_iload_n C dX4_throwsDice_17 rfl 2 rfl ?_
    obtain ⟨rr4, ee5, hs⟩ := tg_b1_e hs
    refine tg_pV (As := [.int 1, .int p2]) (rest := []) C hl0 (kX3_hasPip l D t0 t1 t2 t_pips t_many t_berths t_goal 1 p2 rr4 ee5) wm_411 meX3_hasPip (by decide) [2, 3, 4] rfl (by decide) rfl rfl rfl rfl (Nat.le_of_ble_eq_true rfl) dX4_throwsDice_18 ?_
    refine tg_if_eq (tgt := 36) C dX4_throwsDice_21 (by decide) (fun cc6 => ?_) (fun cc6 => ?_)
    · have hs := tg_t cc6 hs
      refine tg_iconst (v := (-1)) C dX4_throwsDice_36 (by decide) ?_
      obtain ⟨rfl, rfl, rfl, rfl⟩ := tg_i4 hs
      exact tg_iret hE rfl dX4_throwsDice_37
    · have hs := tg_f cc6 hs
      refine tg_aload_n C dX4_throwsDice_24 rfl 0 rfl ?_
      refine tg_get (v := .ref t0) C cfX4 0 rfl 2 (by decide) wm_241 rfl dX4_throwsDice_25 ?_
      refine tg_iconst (v := 2) C dX4_throwsDice_28 (by decide) ?_
      refine tg_iload_n C dX4_throwsDice_29 rfl 3 rfl ?_
      obtain ⟨rr7, ee8, hs⟩ := tg_b1_e hs
      refine tg_pV (As := [.int 2, .int p3]) (rest := []) C hl0 (kX3_hasPip l D t0 t1 t2 t_pips t_many t_berths t_goal 2 p3 rr7 ee8) wm_411 meX3_hasPip (by decide) [2, 3, 4] rfl (by decide) rfl rfl rfl rfl (Nat.le_of_ble_eq_true rfl) dX4_throwsDice_30 ?_
      refine tg_if_ne (tgt := 38) C dX4_throwsDice_33 (by decide) (fun cc9 => ?_) (fun cc9 => ?_)
      · have hs := tg_t cc9 hs
        refine tg_aload_n C dX4_throwsDice_38 rfl 0 rfl ?_
        refine tg_get (v := .ref c0) C cfX4 0 rfl 5 (by decide) wm_244 rfl dX4_throwsDice_39 ?_
        obtain ⟨rr10, ee11, hs⟩ := tg_b1_e hs
        refine tg_pV (As := []) (rest := []) C hl0 (kX1_lies l D c0 c1 c2 t0 t1 t2 c_at c_past c_known t_pips t_many t_berths t_goal rr10 ee11) wm_416 meX1_lies (by decide) [15, 16, 17, 2, 3, 4] rfl (by decide) rfl rfl rfl rfl (Nat.le_of_ble_eq_true rfl) dX4_throwsDice_42 ?_
        refine tg_if_ne (tgt := 60) C dX4_throwsDice_45 (by decide) (fun cc12 => ?_) (fun cc12 => ?_)
        · have hs := tg_t cc12 hs
          refine tg_bipush (v := (-2)) C dX4_throwsDice_60 (by decide) ?_
          obtain ⟨rfl, rfl, rfl, rfl⟩ := tg_i4 hs
          exact tg_iret hE rfl dX4_throwsDice_62
        · have hs := tg_nf cc12 hs
          refine tg_aload_n C dX4_throwsDice_48 rfl 0 rfl ?_
          refine tg_get (v := .ref c0) C cfX4 0 rfl 5 (by decide) wm_244 rfl dX4_throwsDice_49 ?_
          obtain ⟨rr13, ee14, hs⟩ := tg_b1_e hs
          refine tg_pV (As := []) (rest := []) C hl0 (kX1_winner l D c0 c1 c2 t0 t1 t2 c_at c_past c_known t_pips t_many t_berths t_goal rr13 ee14) wm_420 meX1_winner (by decide) [15, 16, 17, 2, 3, 4] rfl (by decide) rfl rfl rfl rfl (Nat.le_of_ble_eq_true rfl) dX4_throwsDice_52 ?_
          refine tg_bipush (v := (-9)) C dX4_throwsDice_55 (by decide) ?_
          refine tg_icmp_eq (tgt := 63) C dX4_throwsDice_57 (by decide) (fun cc15 => ?_) (fun cc15 => ?_)
          · have hs := tg_t cc15 hs
            refine tg_aload_n C dX4_throwsDice_63 rfl 0 rfl ?_
            refine tg_get (v := .ref c0) C cfX4 0 rfl 5 (by decide) wm_244 rfl dX4_throwsDice_64 ?_
            refine tg_iload_n C dX4_throwsDice_67 rfl 1 rfl ?_
            refine tg_iload_n C dX4_throwsDice_68 rfl 2 rfl ?_
            refine tg_iload_n C dX4_throwsDice_69 rfl 3 rfl ?_
            obtain ⟨gg16, gg17, vv18, ee19, hs⟩ := tg_b3_e hs
            refine tg_eV (ws' := (tw_X D h0 x0 t0 t1 t2 r0 e0 e1 e2 rt z0 b0 b1 b2 b3 b4 c0 c1 c2 m0 i0 i1 i2 j0 j1 j2 k0 k1 k2 x_text x_typed t_pips t_many t_berths t_goal r_fault r_length r_kind r_start r_next r_number r_dice r_bt r_gt d_pips d_many d_berths d_goal a_shown a_calm a_windy a_turns a_many a_ever gg16 gg17 vv18 i_at i_past i_known j_at j_past j_known x_kept x_cb x_ct x_chalked x_traced)) (As := [.int p1, .int p2, .int p3]) (rest := []) C V hl0 (kX1_cast l D c0 c1 c2 t0 t1 t2 c_at c_past c_known t_pips t_many t_berths t_goal p1 p2 p3 gg16 gg17 vv18 ee19) wm_425 meX1_cast (by decide) [15, 16, 17, 2, 3, 4] rfl (by decide) rfl rfl rfl rfl (Nat.le_of_ble_eq_true rfl) rfl rfl rfl dX4_throwsDice_70 ?_
            refine tg_aload_n C dX4_throwsDice_73 rfl 0 rfl ?_
            refine tg_get (v := .ref c0) C cfX4 0 rfl 5 (by decide) wm_244 rfl dX4_throwsDice_74 ?_
            obtain ⟨rr20, ee21, hs⟩ := tg_b1_e hs
            refine tg_pV (As := []) (rest := []) C hl0 (kX1_open l D c0 c1 c2 t0 t1 t2 gg16 gg17 vv18 t_pips t_many t_berths t_goal rr20 ee21) wm_440 meX1_open (by decide) [15, 16, 17, 2, 3, 4] rfl (by decide) rfl rfl rfl rfl (Nat.le_of_ble_eq_true rfl) dX4_throwsDice_77 ?_
            obtain ⟨rfl, rfl, rfl, rfl⟩ := tg_i4 hs
            exact tg_iret hE rfl dX4_throwsDice_80
          · have hs := tg_f cc15 hs
            refine tg_bipush (v := (-2)) C dX4_throwsDice_60 (by decide) ?_
            obtain ⟨rfl, rfl, rfl, rfl⟩ := tg_i4 hs
            exact tg_iret hE rfl dX4_throwsDice_62
      · have hs := tg_nf cc9 hs
        refine tg_iconst (v := (-1)) C dX4_throwsDice_36 (by decide) ?_
        obtain ⟨rfl, rfl, rfl, rfl⟩ := tg_i4 hs
        exact tg_iret hE rfl dX4_throwsDice_37
set_option maxHeartbeats 2000000 in
set_option maxRecDepth 20000 in
theorem kX4_throwsDice (l : Launch) (D : tg_D) (h0 x0 t0 t1 t2 r0 e0 e1 e2 rt z0 b0 b1 b2 b3 b4 c0 c1 c2 m0 i0 i1 i2 j0 j1 j2 k0 k1 k2 : Nat) (x_text : Nat → Int32) (x_typed : Int32) (t_pips : Nat → Int32) (t_many : Nat → Int32) (t_berths : Int32) (t_goal : Int32) (r_fault : Int32) (r_length : Int32) (r_kind : Int32) (r_start : Int32) (r_next : Int32) (r_number : Int32) (r_dice : Int32) (r_bt : Int32) (r_gt : Int32) (d_pips : Nat → Int32) (d_many : Nat → Int32) (d_berths : Int32) (d_goal : Int32) (a_shown : Nat → Int32) (a_calm : Nat → Int32) (a_windy : Nat → Int32) (a_turns : Nat → Int32) (a_many : Int32) (a_ever : Int32) (c_at : Nat → Int32) (c_past : Nat → Int32) (c_known : Int32) (i_at : Nat → Int32) (i_past : Nat → Int32) (i_known : Int32) (j_at : Nat → Int32) (j_past : Nat → Int32) (j_known : Int32) (x_kept : Nat → Int32) (x_cb : Nat → Int32) (x_ct : Nat → Int32) (x_chalked : Int32) (x_traced : Int64) (p1 : Int32) (p2 : Int32) (p3 : Int32) (r : Int32) (q_c_at : Nat → Int32) (q_c_past : Nat → Int32) (q_c_known : Int32) (hs : fX4_throwsDice t_pips t_many t_berths t_goal c_at c_past c_known p1 p2 p3 = some (r, q_c_at, q_c_past, q_c_known)) : Met l yX4_throwsDice [Cond.code yX4_throwsDice cX4_throwsDice 4 (some .int)] (tg_rm 4 87) (tg_Pre D (tw_X D h0 x0 t0 t1 t2 r0 e0 e1 e2 rt z0 b0 b1 b2 b3 b4 c0 c1 c2 m0 i0 i1 i2 j0 j1 j2 k0 k1 k2 x_text x_typed t_pips t_many t_berths t_goal r_fault r_length r_kind r_start r_next r_number r_dice r_bt r_gt d_pips d_many d_berths d_goal a_shown a_calm a_windy a_turns a_many a_ever c_at c_past c_known i_at i_past i_known j_at j_past j_known x_kept x_cb x_ct x_chalked x_traced) [.ref h0, .int p1, .int p2, .int p3]) (tg_Qe (some (.int r)) D (tw_X D h0 x0 t0 t1 t2 r0 e0 e1 e2 rt z0 b0 b1 b2 b3 b4 c0 c1 c2 m0 i0 i1 i2 j0 j1 j2 k0 k1 k2 x_text x_typed t_pips t_many t_berths t_goal r_fault r_length r_kind r_start r_next r_number r_dice r_bt r_gt d_pips d_many d_berths d_goal a_shown a_calm a_windy a_turns a_many a_ever q_c_at q_c_past q_c_known i_at i_past i_known j_at j_past j_known x_kept x_cb x_ct x_chalked x_traced) (tg_Ad (tw_X D h0 x0 t0 t1 t2 r0 e0 e1 e2 rt z0 b0 b1 b2 b3 b4 c0 c1 c2 m0 i0 i1 i2 j0 j1 j2 k0 k1 k2 x_text x_typed t_pips t_many t_berths t_goal r_fault r_length r_kind r_start r_next r_number r_dice r_bt r_gt d_pips d_many d_berths d_goal a_shown a_calm a_windy a_turns a_many a_ever c_at c_past c_known i_at i_past i_known j_at j_past j_known x_kept x_cb x_ct x_chalked x_traced))) 0 0 (tg_Ad (tw_X D h0 x0 t0 t1 t2 r0 e0 e1 e2 rt z0 b0 b1 b2 b3 b4 c0 c1 c2 m0 i0 i1 i2 j0 j1 j2 k0 k1 k2 x_text x_typed t_pips t_many t_berths t_goal r_fault r_length r_kind r_start r_next r_number r_dice r_bt r_gt d_pips d_many d_berths d_goal a_shown a_calm a_windy a_turns a_many a_ever c_at c_past c_known i_at i_past i_known j_at j_past j_known x_kept x_cb x_ct x_chalked x_traced)) := tg_metEi (by decide) (Nat.le_of_ble_eq_true rfl) (fun X hl0 C V hE => vX4_throwsDice l D h0 x0 t0 t1 t2 r0 e0 e1 e2 rt z0 b0 b1 b2 b3 b4 c0 c1 c2 m0 i0 i1 i2 j0 j1 j2 k0 k1 k2 x_text x_typed t_pips t_many t_berths t_goal r_fault r_length r_kind r_start r_next r_number r_dice r_bt r_gt d_pips d_many d_berths d_goal a_shown a_calm a_windy a_turns a_many a_ever c_at c_past c_known i_at i_past i_known j_at j_past j_known x_kept x_cb x_ct x_chalked x_traced p1 p2 p3 X hl0 C V r q_c_at q_c_past q_c_known hs hE)
def fX4_takes (t_berths : Int32) (t_goal : Int32) (c_at : Nat → Int32) (c_past : Nat → Int32) (c_known : Int32) (p1 : Int32) : Option (Int32 × (Nat → Int32) × (Nat → Int32) × Int32) := tg_b1 (fX4_isBerth t_berths p1) fun rr1 => if ¬ rr1 = 0 then (tg_b1 (fX1_winner c_at t_goal) fun rr4 => if ¬ rr4 = (-9) then (some ((-2), c_at, c_past, c_known)) else (tg_b1 (fX1_open c_at t_berths) fun rr7 => tg_b1 (fX4_hasBit rr7 p1) fun rr9 => if ¬ rr9 = 0 then (tg_b4 (fX1_take c_at c_past c_known t_goal p1) fun rr12 gg13 gg14 vv15 => some (rr12, gg13, gg14, vv15)) else (some ((-2), c_at, c_past, c_known)))) else (some ((-1), c_at, c_past, c_known))
set_option maxHeartbeats 2000000 in
set_option maxRecDepth 20000 in
theorem vX4_takes (l : Launch) (D : tg_D) (h0 x0 t0 t1 t2 r0 e0 e1 e2 rt z0 b0 b1 b2 b3 b4 c0 c1 c2 m0 i0 i1 i2 j0 j1 j2 k0 k1 k2 : Nat) (x_text : Nat → Int32) (x_typed : Int32) (t_pips : Nat → Int32) (t_many : Nat → Int32) (t_berths : Int32) (t_goal : Int32) (r_fault : Int32) (r_length : Int32) (r_kind : Int32) (r_start : Int32) (r_next : Int32) (r_number : Int32) (r_dice : Int32) (r_bt : Int32) (r_gt : Int32) (d_pips : Nat → Int32) (d_many : Nat → Int32) (d_berths : Int32) (d_goal : Int32) (a_shown : Nat → Int32) (a_calm : Nat → Int32) (a_windy : Nat → Int32) (a_turns : Nat → Int32) (a_many : Int32) (a_ever : Int32) (c_at : Nat → Int32) (c_past : Nat → Int32) (c_known : Int32) (i_at : Nat → Int32) (i_past : Nat → Int32) (i_known : Int32) (j_at : Nat → Int32) (j_past : Nat → Int32) (j_known : Int32) (x_kept : Nat → Int32) (x_cb : Nat → Int32) (x_ct : Nat → Int32) (x_chalked : Int32) (x_traced : Int64) (p1 : Int32) (X : tg_X) (hl0 : tg_l X = l) (C : tg_C X D 2 cX4_takes RX4 4 87 0 0) (V : tg_V X) (r : Int32) (q_c_at : Nat → Int32) (q_c_past : Nat → Int32) (q_c_known : Int32) (hs : fX4_takes t_berths t_goal c_at c_past c_known p1 = some (r, q_c_at, q_c_past, q_c_known)) (hE : tg_Ei X D 0 0 cX4_takes .int r (tw_X D h0 x0 t0 t1 t2 r0 e0 e1 e2 rt z0 b0 b1 b2 b3 b4 c0 c1 c2 m0 i0 i1 i2 j0 j1 j2 k0 k1 k2 x_text x_typed t_pips t_many t_berths t_goal r_fault r_length r_kind r_start r_next r_number r_dice r_bt r_gt d_pips d_many d_berths d_goal a_shown a_calm a_windy a_turns a_many a_ever q_c_at q_c_past q_c_known i_at i_past i_known j_at j_past j_known x_kept x_cb x_ct x_chalked x_traced)) : tg_G X D 2 0 0 (tw_X D h0 x0 t0 t1 t2 r0 e0 e1 e2 rt z0 b0 b1 b2 b3 b4 c0 c1 c2 m0 i0 i1 i2 j0 j1 j2 k0 k1 k2 x_text x_typed t_pips t_many t_berths t_goal r_fault r_length r_kind r_start r_next r_number r_dice r_bt r_gt d_pips d_many d_berths d_goal a_shown a_calm a_windy a_turns a_many a_ever c_at c_past c_known i_at i_past i_known j_at j_past j_known x_kept x_cb x_ct x_chalked x_traced) [(0, .ref h0), (1, .int p1)] 0 [] := by
  unfold fX4_takes at hs
  refine tg_aload_n C dX4_takes_0 rfl 0 rfl ?_
  refine tg_iload_n C dX4_takes_1 rfl 1 rfl ?_
  obtain ⟨rr1, ee2, hs⟩ := tg_b1_e hs
  refine tg_pVs (As := [.int p1]) (rest := []) C hl0 (kX4_isBerth l D h0 x0 t0 t1 t2 r0 e0 e1 e2 rt z0 b0 b1 b2 b3 b4 c0 c1 c2 m0 i0 i1 i2 j0 j1 j2 k0 k1 k2 x_text x_typed t_pips t_many t_berths t_goal r_fault r_length r_kind r_start r_next r_number r_dice r_bt r_gt d_pips d_many d_berths d_goal a_shown a_calm a_windy a_turns a_many a_ever c_at c_past c_known i_at i_past i_known j_at j_past j_known x_kept x_cb x_ct x_chalked x_traced p1 rr1 ee2) wm_360 meX4_isBerth (by decide) rfl rfl rfl rfl (Nat.le_of_ble_eq_true rfl) dX4_takes_2 ?_
  refine tg_if_ne (tgt := 10) C dX4_takes_5 (by decide) (fun cc3 => ?_) (fun cc3 => ?_)
  · have hs := tg_t cc3 hs
    refine tg_aload_n C dX4_takes_10 rfl 0 rfl ?_
    refine tg_get (v := .ref c0) C cfX4 0 rfl 5 (by decide) wm_244 rfl dX4_takes_11 ?_
    obtain ⟨rr4, ee5, hs⟩ := tg_b1_e hs
    refine tg_pV (As := []) (rest := []) C hl0 (kX1_winner l D c0 c1 c2 t0 t1 t2 c_at c_past c_known t_pips t_many t_berths t_goal rr4 ee5) wm_420 meX1_winner (by decide) [15, 16, 17, 2, 3, 4] rfl (by decide) rfl rfl rfl rfl (Nat.le_of_ble_eq_true rfl) dX4_takes_14 ?_
    refine tg_bipush (v := (-9)) C dX4_takes_17 (by decide) ?_
    refine tg_icmp_ne (tgt := 36) C dX4_takes_19 (by decide) (fun cc6 => ?_) (fun cc6 => ?_)
    · have hs := tg_t cc6 hs
      refine tg_bipush (v := (-2)) C dX4_takes_36 (by decide) ?_
      obtain ⟨rfl, rfl, rfl, rfl⟩ := tg_i4 hs
      exact tg_iret hE rfl dX4_takes_38
    · have hs := tg_nf cc6 hs
      refine tg_aload_n C dX4_takes_22 rfl 0 rfl ?_
      refine tg_get (v := .ref c0) C cfX4 0 rfl 5 (by decide) wm_244 rfl dX4_takes_23 ?_
      obtain ⟨rr7, ee8, hs⟩ := tg_b1_e hs
      refine tg_pV (As := []) (rest := []) C hl0 (kX1_open l D c0 c1 c2 t0 t1 t2 c_at c_past c_known t_pips t_many t_berths t_goal rr7 ee8) wm_440 meX1_open (by decide) [15, 16, 17, 2, 3, 4] rfl (by decide) rfl rfl rfl rfl (Nat.le_of_ble_eq_true rfl) dX4_takes_26 ?_
      refine tg_iload_n C dX4_takes_29 rfl 1 rfl ?_
      obtain ⟨rr9, ee10, hs⟩ := tg_b1_e hs
      refine tg_pS (As := [.int rr7, .int p1]) (rest := []) C hl0 (kX4_hasBit l D rr7 p1 rr9 ee10) wm_459 meX4_hasBit (by decide) rfl rfl (Nat.le_of_ble_eq_true rfl) dX4_takes_30 ?_
      refine tg_if_ne (tgt := 39) C dX4_takes_33 (by decide) (fun cc11 => ?_) (fun cc11 => ?_)
      · have hs := tg_t cc11 hs
        refine tg_aload_n C dX4_takes_39 rfl 0 rfl ?_
        refine tg_get (v := .ref c0) C cfX4 0 rfl 5 (by decide) wm_244 rfl dX4_takes_40 ?_
        refine tg_iload_n C dX4_takes_43 rfl 1 rfl ?_
        obtain ⟨rr12, gg13, gg14, vv15, ee16, hs⟩ := tg_b4_e hs
        refine tg_eV (ws' := (tw_X D h0 x0 t0 t1 t2 r0 e0 e1 e2 rt z0 b0 b1 b2 b3 b4 c0 c1 c2 m0 i0 i1 i2 j0 j1 j2 k0 k1 k2 x_text x_typed t_pips t_many t_berths t_goal r_fault r_length r_kind r_start r_next r_number r_dice r_bt r_gt d_pips d_many d_berths d_goal a_shown a_calm a_windy a_turns a_many a_ever gg13 gg14 vv15 i_at i_past i_known j_at j_past j_known x_kept x_cb x_ct x_chalked x_traced)) (As := [.int p1]) (rest := []) C V hl0 (kX1_take l D c0 c1 c2 t0 t1 t2 c_at c_past c_known t_pips t_many t_berths t_goal p1 rr12 gg13 gg14 vv15 ee16) wm_460 meX1_take (by decide) [15, 16, 17, 2, 3, 4] rfl (by decide) rfl rfl rfl rfl (Nat.le_of_ble_eq_true rfl) rfl rfl rfl dX4_takes_44 ?_
        obtain ⟨rfl, rfl, rfl, rfl⟩ := tg_i4 hs
        exact tg_iret hE rfl dX4_takes_47
      · have hs := tg_nf cc11 hs
        refine tg_bipush (v := (-2)) C dX4_takes_36 (by decide) ?_
        obtain ⟨rfl, rfl, rfl, rfl⟩ := tg_i4 hs
        exact tg_iret hE rfl dX4_takes_38
  · have hs := tg_nf cc3 hs
    refine tg_iconst (v := (-1)) C dX4_takes_8 (by decide) ?_
    obtain ⟨rfl, rfl, rfl, rfl⟩ := tg_i4 hs
    exact tg_iret hE rfl dX4_takes_9
set_option maxHeartbeats 2000000 in
set_option maxRecDepth 20000 in
theorem kX4_takes (l : Launch) (D : tg_D) (h0 x0 t0 t1 t2 r0 e0 e1 e2 rt z0 b0 b1 b2 b3 b4 c0 c1 c2 m0 i0 i1 i2 j0 j1 j2 k0 k1 k2 : Nat) (x_text : Nat → Int32) (x_typed : Int32) (t_pips : Nat → Int32) (t_many : Nat → Int32) (t_berths : Int32) (t_goal : Int32) (r_fault : Int32) (r_length : Int32) (r_kind : Int32) (r_start : Int32) (r_next : Int32) (r_number : Int32) (r_dice : Int32) (r_bt : Int32) (r_gt : Int32) (d_pips : Nat → Int32) (d_many : Nat → Int32) (d_berths : Int32) (d_goal : Int32) (a_shown : Nat → Int32) (a_calm : Nat → Int32) (a_windy : Nat → Int32) (a_turns : Nat → Int32) (a_many : Int32) (a_ever : Int32) (c_at : Nat → Int32) (c_past : Nat → Int32) (c_known : Int32) (i_at : Nat → Int32) (i_past : Nat → Int32) (i_known : Int32) (j_at : Nat → Int32) (j_past : Nat → Int32) (j_known : Int32) (x_kept : Nat → Int32) (x_cb : Nat → Int32) (x_ct : Nat → Int32) (x_chalked : Int32) (x_traced : Int64) (p1 : Int32) (r : Int32) (q_c_at : Nat → Int32) (q_c_past : Nat → Int32) (q_c_known : Int32) (hs : fX4_takes t_berths t_goal c_at c_past c_known p1 = some (r, q_c_at, q_c_past, q_c_known)) : Met l yX4_takes [Cond.code yX4_takes cX4_takes 2 (some .int)] (tg_rm 4 87) (tg_Pre D (tw_X D h0 x0 t0 t1 t2 r0 e0 e1 e2 rt z0 b0 b1 b2 b3 b4 c0 c1 c2 m0 i0 i1 i2 j0 j1 j2 k0 k1 k2 x_text x_typed t_pips t_many t_berths t_goal r_fault r_length r_kind r_start r_next r_number r_dice r_bt r_gt d_pips d_many d_berths d_goal a_shown a_calm a_windy a_turns a_many a_ever c_at c_past c_known i_at i_past i_known j_at j_past j_known x_kept x_cb x_ct x_chalked x_traced) [.ref h0, .int p1]) (tg_Qe (some (.int r)) D (tw_X D h0 x0 t0 t1 t2 r0 e0 e1 e2 rt z0 b0 b1 b2 b3 b4 c0 c1 c2 m0 i0 i1 i2 j0 j1 j2 k0 k1 k2 x_text x_typed t_pips t_many t_berths t_goal r_fault r_length r_kind r_start r_next r_number r_dice r_bt r_gt d_pips d_many d_berths d_goal a_shown a_calm a_windy a_turns a_many a_ever q_c_at q_c_past q_c_known i_at i_past i_known j_at j_past j_known x_kept x_cb x_ct x_chalked x_traced) (tg_Ad (tw_X D h0 x0 t0 t1 t2 r0 e0 e1 e2 rt z0 b0 b1 b2 b3 b4 c0 c1 c2 m0 i0 i1 i2 j0 j1 j2 k0 k1 k2 x_text x_typed t_pips t_many t_berths t_goal r_fault r_length r_kind r_start r_next r_number r_dice r_bt r_gt d_pips d_many d_berths d_goal a_shown a_calm a_windy a_turns a_many a_ever c_at c_past c_known i_at i_past i_known j_at j_past j_known x_kept x_cb x_ct x_chalked x_traced))) 0 0 (tg_Ad (tw_X D h0 x0 t0 t1 t2 r0 e0 e1 e2 rt z0 b0 b1 b2 b3 b4 c0 c1 c2 m0 i0 i1 i2 j0 j1 j2 k0 k1 k2 x_text x_typed t_pips t_many t_berths t_goal r_fault r_length r_kind r_start r_next r_number r_dice r_bt r_gt d_pips d_many d_berths d_goal a_shown a_calm a_windy a_turns a_many a_ever c_at c_past c_known i_at i_past i_known j_at j_past j_known x_kept x_cb x_ct x_chalked x_traced)) := tg_metEi (by decide) (Nat.le_of_ble_eq_true rfl) (fun X hl0 C V hE => vX4_takes l D h0 x0 t0 t1 t2 r0 e0 e1 e2 rt z0 b0 b1 b2 b3 b4 c0 c1 c2 m0 i0 i1 i2 j0 j1 j2 k0 k1 k2 x_text x_typed t_pips t_many t_berths t_goal r_fault r_length r_kind r_start r_next r_number r_dice r_bt r_gt d_pips d_many d_berths d_goal a_shown a_calm a_windy a_turns a_many a_ever c_at c_past c_known i_at i_past i_known j_at j_past j_known x_kept x_cb x_ct x_chalked x_traced p1 X hl0 C V r q_c_at q_c_past q_c_known hs hE)
def fX4_passes (t_berths : Int32) (t_goal : Int32) (c_at : Nat → Int32) (c_past : Nat → Int32) (c_known : Int32) : Option (Int32 × (Nat → Int32) × (Nat → Int32) × Int32) := tg_b1 (fX1_lies c_at) fun rr1 => if rr1 = 0 then (some ((-2), c_at, c_past, c_known)) else (tg_b1 (fX1_open c_at t_berths) fun rr4 => if ¬ rr4 = 0 then (some ((-2), c_at, c_past, c_known)) else (tg_b1 (fX1_winner c_at t_goal) fun rr7 => if rr7 = (-9) then (tg_b3 (fX1_pass c_at c_past c_known t_goal) fun gg10 gg11 vv12 => tg_b1 (fX1_whoMoves gg10 t_goal) fun rr14 => some (rr14, gg10, gg11, vv12)) else (some ((-2), c_at, c_past, c_known))))
set_option maxHeartbeats 2000000 in
set_option maxRecDepth 20000 in
theorem vX4_passes (l : Launch) (D : tg_D) (h0 x0 t0 t1 t2 r0 e0 e1 e2 rt z0 b0 b1 b2 b3 b4 c0 c1 c2 m0 i0 i1 i2 j0 j1 j2 k0 k1 k2 : Nat) (x_text : Nat → Int32) (x_typed : Int32) (t_pips : Nat → Int32) (t_many : Nat → Int32) (t_berths : Int32) (t_goal : Int32) (r_fault : Int32) (r_length : Int32) (r_kind : Int32) (r_start : Int32) (r_next : Int32) (r_number : Int32) (r_dice : Int32) (r_bt : Int32) (r_gt : Int32) (d_pips : Nat → Int32) (d_many : Nat → Int32) (d_berths : Int32) (d_goal : Int32) (a_shown : Nat → Int32) (a_calm : Nat → Int32) (a_windy : Nat → Int32) (a_turns : Nat → Int32) (a_many : Int32) (a_ever : Int32) (c_at : Nat → Int32) (c_past : Nat → Int32) (c_known : Int32) (i_at : Nat → Int32) (i_past : Nat → Int32) (i_known : Int32) (j_at : Nat → Int32) (j_past : Nat → Int32) (j_known : Int32) (x_kept : Nat → Int32) (x_cb : Nat → Int32) (x_ct : Nat → Int32) (x_chalked : Int32) (x_traced : Int64) (X : tg_X) (hl0 : tg_l X = l) (C : tg_C X D 1 cX4_passes RX4 4 87 0 0) (V : tg_V X) (r : Int32) (q_c_at : Nat → Int32) (q_c_past : Nat → Int32) (q_c_known : Int32) (hs : fX4_passes t_berths t_goal c_at c_past c_known = some (r, q_c_at, q_c_past, q_c_known)) (hE : tg_Ei X D 0 0 cX4_passes .int r (tw_X D h0 x0 t0 t1 t2 r0 e0 e1 e2 rt z0 b0 b1 b2 b3 b4 c0 c1 c2 m0 i0 i1 i2 j0 j1 j2 k0 k1 k2 x_text x_typed t_pips t_many t_berths t_goal r_fault r_length r_kind r_start r_next r_number r_dice r_bt r_gt d_pips d_many d_berths d_goal a_shown a_calm a_windy a_turns a_many a_ever q_c_at q_c_past q_c_known i_at i_past i_known j_at j_past j_known x_kept x_cb x_ct x_chalked x_traced)) : tg_G X D 1 0 0 (tw_X D h0 x0 t0 t1 t2 r0 e0 e1 e2 rt z0 b0 b1 b2 b3 b4 c0 c1 c2 m0 i0 i1 i2 j0 j1 j2 k0 k1 k2 x_text x_typed t_pips t_many t_berths t_goal r_fault r_length r_kind r_start r_next r_number r_dice r_bt r_gt d_pips d_many d_berths d_goal a_shown a_calm a_windy a_turns a_many a_ever c_at c_past c_known i_at i_past i_known j_at j_past j_known x_kept x_cb x_ct x_chalked x_traced) [(0, .ref h0)] 0 [] := by
  unfold fX4_passes at hs
  refine tg_aload_n C dX4_passes_0 rfl 0 rfl ?_
  refine tg_get (v := .ref c0) C cfX4 0 rfl 5 (by decide) wm_244 rfl dX4_passes_1 ?_
  obtain ⟨rr1, ee2, hs⟩ := tg_b1_e hs
  refine tg_pV (As := []) (rest := []) C hl0 (kX1_lies l D c0 c1 c2 t0 t1 t2 c_at c_past c_known t_pips t_many t_berths t_goal rr1 ee2) wm_416 meX1_lies (by decide) [15, 16, 17, 2, 3, 4] rfl (by decide) rfl rfl rfl rfl (Nat.le_of_ble_eq_true rfl) dX4_passes_4 ?_
  refine tg_if_eq (tgt := 32) C dX4_passes_7 (by decide) (fun cc3 => ?_) (fun cc3 => ?_)
  · have hs := tg_t cc3 hs
    refine tg_bipush (v := (-2)) C dX4_passes_32 (by decide) ?_
    obtain ⟨rfl, rfl, rfl, rfl⟩ := tg_i4 hs
    exact tg_iret hE rfl dX4_passes_34
  · have hs := tg_f cc3 hs
    refine tg_aload_n C dX4_passes_10 rfl 0 rfl ?_
    refine tg_get (v := .ref c0) C cfX4 0 rfl 5 (by decide) wm_244 rfl dX4_passes_11 ?_
    obtain ⟨rr4, ee5, hs⟩ := tg_b1_e hs
    refine tg_pV (As := []) (rest := []) C hl0 (kX1_open l D c0 c1 c2 t0 t1 t2 c_at c_past c_known t_pips t_many t_berths t_goal rr4 ee5) wm_440 meX1_open (by decide) [15, 16, 17, 2, 3, 4] rfl (by decide) rfl rfl rfl rfl (Nat.le_of_ble_eq_true rfl) dX4_passes_14 ?_
    refine tg_if_ne (tgt := 32) C dX4_passes_17 (by decide) (fun cc6 => ?_) (fun cc6 => ?_)
    · have hs := tg_t cc6 hs
      refine tg_bipush (v := (-2)) C dX4_passes_32 (by decide) ?_
      obtain ⟨rfl, rfl, rfl, rfl⟩ := tg_i4 hs
      exact tg_iret hE rfl dX4_passes_34
    · have hs := tg_nf cc6 hs
      refine tg_aload_n C dX4_passes_20 rfl 0 rfl ?_
      refine tg_get (v := .ref c0) C cfX4 0 rfl 5 (by decide) wm_244 rfl dX4_passes_21 ?_
      obtain ⟨rr7, ee8, hs⟩ := tg_b1_e hs
      refine tg_pV (As := []) (rest := []) C hl0 (kX1_winner l D c0 c1 c2 t0 t1 t2 c_at c_past c_known t_pips t_many t_berths t_goal rr7 ee8) wm_420 meX1_winner (by decide) [15, 16, 17, 2, 3, 4] rfl (by decide) rfl rfl rfl rfl (Nat.le_of_ble_eq_true rfl) dX4_passes_24 ?_
      refine tg_bipush (v := (-9)) C dX4_passes_27 (by decide) ?_
      refine tg_icmp_eq (tgt := 35) C dX4_passes_29 (by decide) (fun cc9 => ?_) (fun cc9 => ?_)
      · have hs := tg_t cc9 hs
        refine tg_aload_n C dX4_passes_35 rfl 0 rfl ?_
        refine tg_get (v := .ref c0) C cfX4 0 rfl 5 (by decide) wm_244 rfl dX4_passes_36 ?_
        obtain ⟨gg10, gg11, vv12, ee13, hs⟩ := tg_b3_e hs
        refine tg_eV (ws' := (tw_X D h0 x0 t0 t1 t2 r0 e0 e1 e2 rt z0 b0 b1 b2 b3 b4 c0 c1 c2 m0 i0 i1 i2 j0 j1 j2 k0 k1 k2 x_text x_typed t_pips t_many t_berths t_goal r_fault r_length r_kind r_start r_next r_number r_dice r_bt r_gt d_pips d_many d_berths d_goal a_shown a_calm a_windy a_turns a_many a_ever gg10 gg11 vv12 i_at i_past i_known j_at j_past j_known x_kept x_cb x_ct x_chalked x_traced)) (As := []) (rest := []) C V hl0 (kX1_pass l D c0 c1 c2 t0 t1 t2 c_at c_past c_known t_pips t_many t_berths t_goal gg10 gg11 vv12 ee13) wm_485 meX1_pass (by decide) [15, 16, 17, 2, 3, 4] rfl (by decide) rfl rfl rfl rfl (Nat.le_of_ble_eq_true rfl) rfl rfl rfl dX4_passes_39 ?_
        refine tg_aload_n C dX4_passes_42 rfl 0 rfl ?_
        refine tg_get (v := .ref c0) C cfX4 0 rfl 5 (by decide) wm_244 rfl dX4_passes_43 ?_
        obtain ⟨rr14, ee15, hs⟩ := tg_b1_e hs
        refine tg_pV (As := []) (rest := []) C hl0 (kX1_whoMoves l D c0 c1 c2 t0 t1 t2 gg10 gg11 vv12 t_pips t_many t_berths t_goal rr14 ee15) wm_489 meX1_whoMoves (by decide) [15, 16, 17, 2, 3, 4] rfl (by decide) rfl rfl rfl rfl (Nat.le_of_ble_eq_true rfl) dX4_passes_46 ?_
        obtain ⟨rfl, rfl, rfl, rfl⟩ := tg_i4 hs
        exact tg_iret hE rfl dX4_passes_49
      · have hs := tg_f cc9 hs
        refine tg_bipush (v := (-2)) C dX4_passes_32 (by decide) ?_
        obtain ⟨rfl, rfl, rfl, rfl⟩ := tg_i4 hs
        exact tg_iret hE rfl dX4_passes_34
set_option maxHeartbeats 2000000 in
set_option maxRecDepth 20000 in
theorem kX4_passes (l : Launch) (D : tg_D) (h0 x0 t0 t1 t2 r0 e0 e1 e2 rt z0 b0 b1 b2 b3 b4 c0 c1 c2 m0 i0 i1 i2 j0 j1 j2 k0 k1 k2 : Nat) (x_text : Nat → Int32) (x_typed : Int32) (t_pips : Nat → Int32) (t_many : Nat → Int32) (t_berths : Int32) (t_goal : Int32) (r_fault : Int32) (r_length : Int32) (r_kind : Int32) (r_start : Int32) (r_next : Int32) (r_number : Int32) (r_dice : Int32) (r_bt : Int32) (r_gt : Int32) (d_pips : Nat → Int32) (d_many : Nat → Int32) (d_berths : Int32) (d_goal : Int32) (a_shown : Nat → Int32) (a_calm : Nat → Int32) (a_windy : Nat → Int32) (a_turns : Nat → Int32) (a_many : Int32) (a_ever : Int32) (c_at : Nat → Int32) (c_past : Nat → Int32) (c_known : Int32) (i_at : Nat → Int32) (i_past : Nat → Int32) (i_known : Int32) (j_at : Nat → Int32) (j_past : Nat → Int32) (j_known : Int32) (x_kept : Nat → Int32) (x_cb : Nat → Int32) (x_ct : Nat → Int32) (x_chalked : Int32) (x_traced : Int64) (r : Int32) (q_c_at : Nat → Int32) (q_c_past : Nat → Int32) (q_c_known : Int32) (hs : fX4_passes t_berths t_goal c_at c_past c_known = some (r, q_c_at, q_c_past, q_c_known)) : Met l yX4_passes [Cond.code yX4_passes cX4_passes 1 (some .int)] (tg_rm 4 87) (tg_Pre D (tw_X D h0 x0 t0 t1 t2 r0 e0 e1 e2 rt z0 b0 b1 b2 b3 b4 c0 c1 c2 m0 i0 i1 i2 j0 j1 j2 k0 k1 k2 x_text x_typed t_pips t_many t_berths t_goal r_fault r_length r_kind r_start r_next r_number r_dice r_bt r_gt d_pips d_many d_berths d_goal a_shown a_calm a_windy a_turns a_many a_ever c_at c_past c_known i_at i_past i_known j_at j_past j_known x_kept x_cb x_ct x_chalked x_traced) [.ref h0]) (tg_Qe (some (.int r)) D (tw_X D h0 x0 t0 t1 t2 r0 e0 e1 e2 rt z0 b0 b1 b2 b3 b4 c0 c1 c2 m0 i0 i1 i2 j0 j1 j2 k0 k1 k2 x_text x_typed t_pips t_many t_berths t_goal r_fault r_length r_kind r_start r_next r_number r_dice r_bt r_gt d_pips d_many d_berths d_goal a_shown a_calm a_windy a_turns a_many a_ever q_c_at q_c_past q_c_known i_at i_past i_known j_at j_past j_known x_kept x_cb x_ct x_chalked x_traced) (tg_Ad (tw_X D h0 x0 t0 t1 t2 r0 e0 e1 e2 rt z0 b0 b1 b2 b3 b4 c0 c1 c2 m0 i0 i1 i2 j0 j1 j2 k0 k1 k2 x_text x_typed t_pips t_many t_berths t_goal r_fault r_length r_kind r_start r_next r_number r_dice r_bt r_gt d_pips d_many d_berths d_goal a_shown a_calm a_windy a_turns a_many a_ever c_at c_past c_known i_at i_past i_known j_at j_past j_known x_kept x_cb x_ct x_chalked x_traced))) 0 0 (tg_Ad (tw_X D h0 x0 t0 t1 t2 r0 e0 e1 e2 rt z0 b0 b1 b2 b3 b4 c0 c1 c2 m0 i0 i1 i2 j0 j1 j2 k0 k1 k2 x_text x_typed t_pips t_many t_berths t_goal r_fault r_length r_kind r_start r_next r_number r_dice r_bt r_gt d_pips d_many d_berths d_goal a_shown a_calm a_windy a_turns a_many a_ever c_at c_past c_known i_at i_past i_known j_at j_past j_known x_kept x_cb x_ct x_chalked x_traced)) := tg_metEi (by decide) (Nat.le_of_ble_eq_true rfl) (fun X hl0 C V hE => vX4_passes l D h0 x0 t0 t1 t2 r0 e0 e1 e2 rt z0 b0 b1 b2 b3 b4 c0 c1 c2 m0 i0 i1 i2 j0 j1 j2 k0 k1 k2 x_text x_typed t_pips t_many t_berths t_goal r_fault r_length r_kind r_start r_next r_number r_dice r_bt r_gt d_pips d_many d_berths d_goal a_shown a_calm a_windy a_turns a_many a_ever c_at c_past c_known i_at i_past i_known j_at j_past j_known x_kept x_cb x_ct x_chalked x_traced X hl0 C V r q_c_at q_c_past q_c_known hs hE)
def fX4_leaves (t_goal : Int32) (c_at : Nat → Int32) (c_past : Nat → Int32) (c_known : Int32) : Option (Int32 × (Nat → Int32) × (Nat → Int32) × Int32) := tg_b1 (fX1_lies c_at) fun rr1 => if rr1 = 0 then (some ((-2), c_at, c_past, c_known)) else (tg_b1 (fX1_winner c_at t_goal) fun rr4 => if rr4 = (-9) then (tg_b3 (fX1_leave c_at c_past c_known t_goal) fun gg7 gg8 vv9 => tg_b1 (fX1_whoMoves gg7 t_goal) fun rr11 => some (rr11, gg7, gg8, vv9)) else (some ((-2), c_at, c_past, c_known)))
set_option maxHeartbeats 2000000 in
set_option maxRecDepth 20000 in
theorem vX4_leaves (l : Launch) (D : tg_D) (h0 x0 t0 t1 t2 r0 e0 e1 e2 rt z0 b0 b1 b2 b3 b4 c0 c1 c2 m0 i0 i1 i2 j0 j1 j2 k0 k1 k2 : Nat) (x_text : Nat → Int32) (x_typed : Int32) (t_pips : Nat → Int32) (t_many : Nat → Int32) (t_berths : Int32) (t_goal : Int32) (r_fault : Int32) (r_length : Int32) (r_kind : Int32) (r_start : Int32) (r_next : Int32) (r_number : Int32) (r_dice : Int32) (r_bt : Int32) (r_gt : Int32) (d_pips : Nat → Int32) (d_many : Nat → Int32) (d_berths : Int32) (d_goal : Int32) (a_shown : Nat → Int32) (a_calm : Nat → Int32) (a_windy : Nat → Int32) (a_turns : Nat → Int32) (a_many : Int32) (a_ever : Int32) (c_at : Nat → Int32) (c_past : Nat → Int32) (c_known : Int32) (i_at : Nat → Int32) (i_past : Nat → Int32) (i_known : Int32) (j_at : Nat → Int32) (j_past : Nat → Int32) (j_known : Int32) (x_kept : Nat → Int32) (x_cb : Nat → Int32) (x_ct : Nat → Int32) (x_chalked : Int32) (x_traced : Int64) (X : tg_X) (hl0 : tg_l X = l) (C : tg_C X D 1 cX4_leaves RX4 4 83 0 0) (V : tg_V X) (r : Int32) (q_c_at : Nat → Int32) (q_c_past : Nat → Int32) (q_c_known : Int32) (hs : fX4_leaves t_goal c_at c_past c_known = some (r, q_c_at, q_c_past, q_c_known)) (hE : tg_Ei X D 0 0 cX4_leaves .int r (tw_X D h0 x0 t0 t1 t2 r0 e0 e1 e2 rt z0 b0 b1 b2 b3 b4 c0 c1 c2 m0 i0 i1 i2 j0 j1 j2 k0 k1 k2 x_text x_typed t_pips t_many t_berths t_goal r_fault r_length r_kind r_start r_next r_number r_dice r_bt r_gt d_pips d_many d_berths d_goal a_shown a_calm a_windy a_turns a_many a_ever q_c_at q_c_past q_c_known i_at i_past i_known j_at j_past j_known x_kept x_cb x_ct x_chalked x_traced)) : tg_G X D 1 0 0 (tw_X D h0 x0 t0 t1 t2 r0 e0 e1 e2 rt z0 b0 b1 b2 b3 b4 c0 c1 c2 m0 i0 i1 i2 j0 j1 j2 k0 k1 k2 x_text x_typed t_pips t_many t_berths t_goal r_fault r_length r_kind r_start r_next r_number r_dice r_bt r_gt d_pips d_many d_berths d_goal a_shown a_calm a_windy a_turns a_many a_ever c_at c_past c_known i_at i_past i_known j_at j_past j_known x_kept x_cb x_ct x_chalked x_traced) [(0, .ref h0)] 0 [] := by
  unfold fX4_leaves at hs
  refine tg_aload_n C dX4_leaves_0 rfl 0 rfl ?_
  refine tg_get (v := .ref c0) C cfX4 0 rfl 5 (by decide) wm_244 rfl dX4_leaves_1 ?_
  obtain ⟨rr1, ee2, hs⟩ := tg_b1_e hs
  refine tg_pV (As := []) (rest := []) C hl0 (kX1_lies l D c0 c1 c2 t0 t1 t2 c_at c_past c_known t_pips t_many t_berths t_goal rr1 ee2) wm_416 meX1_lies (by decide) [15, 16, 17, 2, 3, 4] rfl (by decide) rfl rfl rfl rfl (Nat.le_of_ble_eq_true rfl) dX4_leaves_4 ?_
  refine tg_if_eq (tgt := 22) C dX4_leaves_7 (by decide) (fun cc3 => ?_) (fun cc3 => ?_)
  · have hs := tg_t cc3 hs
    refine tg_bipush (v := (-2)) C dX4_leaves_22 (by decide) ?_
    obtain ⟨rfl, rfl, rfl, rfl⟩ := tg_i4 hs
    exact tg_iret hE rfl dX4_leaves_24
  · have hs := tg_f cc3 hs
    refine tg_aload_n C dX4_leaves_10 rfl 0 rfl ?_
    refine tg_get (v := .ref c0) C cfX4 0 rfl 5 (by decide) wm_244 rfl dX4_leaves_11 ?_
    obtain ⟨rr4, ee5, hs⟩ := tg_b1_e hs
    refine tg_pV (As := []) (rest := []) C hl0 (kX1_winner l D c0 c1 c2 t0 t1 t2 c_at c_past c_known t_pips t_many t_berths t_goal rr4 ee5) wm_420 meX1_winner (by decide) [15, 16, 17, 2, 3, 4] rfl (by decide) rfl rfl rfl rfl (Nat.le_of_ble_eq_true rfl) dX4_leaves_14 ?_
    refine tg_bipush (v := (-9)) C dX4_leaves_17 (by decide) ?_
    refine tg_icmp_eq (tgt := 25) C dX4_leaves_19 (by decide) (fun cc6 => ?_) (fun cc6 => ?_)
    · have hs := tg_t cc6 hs
      refine tg_aload_n C dX4_leaves_25 rfl 0 rfl ?_
      refine tg_get (v := .ref c0) C cfX4 0 rfl 5 (by decide) wm_244 rfl dX4_leaves_26 ?_
      obtain ⟨gg7, gg8, vv9, ee10, hs⟩ := tg_b3_e hs
      refine tg_eV (ws' := (tw_X D h0 x0 t0 t1 t2 r0 e0 e1 e2 rt z0 b0 b1 b2 b3 b4 c0 c1 c2 m0 i0 i1 i2 j0 j1 j2 k0 k1 k2 x_text x_typed t_pips t_many t_berths t_goal r_fault r_length r_kind r_start r_next r_number r_dice r_bt r_gt d_pips d_many d_berths d_goal a_shown a_calm a_windy a_turns a_many a_ever gg7 gg8 vv9 i_at i_past i_known j_at j_past j_known x_kept x_cb x_ct x_chalked x_traced)) (As := []) (rest := []) C V hl0 (kX1_leave l D c0 c1 c2 t0 t1 t2 c_at c_past c_known t_pips t_many t_berths t_goal gg7 gg8 vv9 ee10) wm_497 meX1_leave (by decide) [15, 16, 17, 2, 3, 4] rfl (by decide) rfl rfl rfl rfl (Nat.le_of_ble_eq_true rfl) rfl rfl rfl dX4_leaves_29 ?_
      refine tg_aload_n C dX4_leaves_32 rfl 0 rfl ?_
      refine tg_get (v := .ref c0) C cfX4 0 rfl 5 (by decide) wm_244 rfl dX4_leaves_33 ?_
      obtain ⟨rr11, ee12, hs⟩ := tg_b1_e hs
      refine tg_pV (As := []) (rest := []) C hl0 (kX1_whoMoves l D c0 c1 c2 t0 t1 t2 gg7 gg8 vv9 t_pips t_many t_berths t_goal rr11 ee12) wm_489 meX1_whoMoves (by decide) [15, 16, 17, 2, 3, 4] rfl (by decide) rfl rfl rfl rfl (Nat.le_of_ble_eq_true rfl) dX4_leaves_36 ?_
      obtain ⟨rfl, rfl, rfl, rfl⟩ := tg_i4 hs
      exact tg_iret hE rfl dX4_leaves_39
    · have hs := tg_f cc6 hs
      refine tg_bipush (v := (-2)) C dX4_leaves_22 (by decide) ?_
      obtain ⟨rfl, rfl, rfl, rfl⟩ := tg_i4 hs
      exact tg_iret hE rfl dX4_leaves_24
set_option maxHeartbeats 2000000 in
set_option maxRecDepth 20000 in
theorem kX4_leaves (l : Launch) (D : tg_D) (h0 x0 t0 t1 t2 r0 e0 e1 e2 rt z0 b0 b1 b2 b3 b4 c0 c1 c2 m0 i0 i1 i2 j0 j1 j2 k0 k1 k2 : Nat) (x_text : Nat → Int32) (x_typed : Int32) (t_pips : Nat → Int32) (t_many : Nat → Int32) (t_berths : Int32) (t_goal : Int32) (r_fault : Int32) (r_length : Int32) (r_kind : Int32) (r_start : Int32) (r_next : Int32) (r_number : Int32) (r_dice : Int32) (r_bt : Int32) (r_gt : Int32) (d_pips : Nat → Int32) (d_many : Nat → Int32) (d_berths : Int32) (d_goal : Int32) (a_shown : Nat → Int32) (a_calm : Nat → Int32) (a_windy : Nat → Int32) (a_turns : Nat → Int32) (a_many : Int32) (a_ever : Int32) (c_at : Nat → Int32) (c_past : Nat → Int32) (c_known : Int32) (i_at : Nat → Int32) (i_past : Nat → Int32) (i_known : Int32) (j_at : Nat → Int32) (j_past : Nat → Int32) (j_known : Int32) (x_kept : Nat → Int32) (x_cb : Nat → Int32) (x_ct : Nat → Int32) (x_chalked : Int32) (x_traced : Int64) (r : Int32) (q_c_at : Nat → Int32) (q_c_past : Nat → Int32) (q_c_known : Int32) (hs : fX4_leaves t_goal c_at c_past c_known = some (r, q_c_at, q_c_past, q_c_known)) : Met l yX4_leaves [Cond.code yX4_leaves cX4_leaves 1 (some .int)] (tg_rm 4 83) (tg_Pre D (tw_X D h0 x0 t0 t1 t2 r0 e0 e1 e2 rt z0 b0 b1 b2 b3 b4 c0 c1 c2 m0 i0 i1 i2 j0 j1 j2 k0 k1 k2 x_text x_typed t_pips t_many t_berths t_goal r_fault r_length r_kind r_start r_next r_number r_dice r_bt r_gt d_pips d_many d_berths d_goal a_shown a_calm a_windy a_turns a_many a_ever c_at c_past c_known i_at i_past i_known j_at j_past j_known x_kept x_cb x_ct x_chalked x_traced) [.ref h0]) (tg_Qe (some (.int r)) D (tw_X D h0 x0 t0 t1 t2 r0 e0 e1 e2 rt z0 b0 b1 b2 b3 b4 c0 c1 c2 m0 i0 i1 i2 j0 j1 j2 k0 k1 k2 x_text x_typed t_pips t_many t_berths t_goal r_fault r_length r_kind r_start r_next r_number r_dice r_bt r_gt d_pips d_many d_berths d_goal a_shown a_calm a_windy a_turns a_many a_ever q_c_at q_c_past q_c_known i_at i_past i_known j_at j_past j_known x_kept x_cb x_ct x_chalked x_traced) (tg_Ad (tw_X D h0 x0 t0 t1 t2 r0 e0 e1 e2 rt z0 b0 b1 b2 b3 b4 c0 c1 c2 m0 i0 i1 i2 j0 j1 j2 k0 k1 k2 x_text x_typed t_pips t_many t_berths t_goal r_fault r_length r_kind r_start r_next r_number r_dice r_bt r_gt d_pips d_many d_berths d_goal a_shown a_calm a_windy a_turns a_many a_ever c_at c_past c_known i_at i_past i_known j_at j_past j_known x_kept x_cb x_ct x_chalked x_traced))) 0 0 (tg_Ad (tw_X D h0 x0 t0 t1 t2 r0 e0 e1 e2 rt z0 b0 b1 b2 b3 b4 c0 c1 c2 m0 i0 i1 i2 j0 j1 j2 k0 k1 k2 x_text x_typed t_pips t_many t_berths t_goal r_fault r_length r_kind r_start r_next r_number r_dice r_bt r_gt d_pips d_many d_berths d_goal a_shown a_calm a_windy a_turns a_many a_ever c_at c_past c_known i_at i_past i_known j_at j_past j_known x_kept x_cb x_ct x_chalked x_traced)) := tg_metEi (by decide) (Nat.le_of_ble_eq_true rfl) (fun X hl0 C V hE => vX4_leaves l D h0 x0 t0 t1 t2 r0 e0 e1 e2 rt z0 b0 b1 b2 b3 b4 c0 c1 c2 m0 i0 i1 i2 j0 j1 j2 k0 k1 k2 x_text x_typed t_pips t_many t_berths t_goal r_fault r_length r_kind r_start r_next r_number r_dice r_bt r_gt d_pips d_many d_berths d_goal a_shown a_calm a_windy a_turns a_many a_ever c_at c_past c_known i_at i_past i_known j_at j_past j_known x_kept x_cb x_ct x_chalked x_traced X hl0 C V r q_c_at q_c_past q_c_known hs hE)
