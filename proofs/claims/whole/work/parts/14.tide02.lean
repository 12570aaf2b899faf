def fX4_undo (c_at : Nat → Int32) (c_past : Nat → Int32) (c_known : Int32) : Option (Int32 × (Nat → Int32) × Int32) := if ¬ c_known = 0 then (tg_b2 (fX1_stepBack c_at c_past c_known) fun gg2 vv3 => some (vv3, gg2, vv3)) else (some ((-2), c_at, c_known))
set_option maxHeartbeats 2000000 in
set_option maxRecDepth 20000 in
theorem vX4_undo (l : Launch) (D : tg_D) (h0 x0 t0 t1 t2 r0 e0 e1 e2 rt z0 b0 b1 b2 b3 b4 c0 c1 c2 m0 i0 i1 i2 j0 j1 j2 k0 k1 k2 : Nat) (x_text : Nat → Int32) (x_typed : Int32) (t_pips : Nat → Int32) (t_many : Nat → Int32) (t_berths : Int32) (t_goal : Int32) (r_fault : Int32) (r_length : Int32) (r_kind : Int32) (r_start : Int32) (r_next : Int32) (r_number : Int32) (r_dice : Int32) (r_bt : Int32) (r_gt : Int32) (d_pips : Nat → Int32) (d_many : Nat → Int32) (d_berths : Int32) (d_goal : Int32) (a_shown : Nat → Int32) (a_calm : Nat → Int32) (a_windy : Nat → Int32) (a_turns : Nat → Int32) (a_many : Int32) (a_ever : Int32) (c_at : Nat → Int32) (c_past : Nat → Int32) (c_known : Int32) (i_at : Nat → Int32) (i_past : Nat → Int32) (i_known : Int32) (j_at : Nat → Int32) (j_past : Nat → Int32) (j_known : Int32) (x_kept : Nat → Int32) (x_cb : Nat → Int32) (x_ct : Nat → Int32) (x_chalked : Int32) (x_traced : Int64) (X : tg_X) (hl0 : tg_l X = l) (C : tg_C X D 1 cX4_undo RX4 2 38 0 0) (V : tg_V X) (r : Int32) (q_c_at : Nat → Int32) (q_c_known : Int32) (hs : fX4_undo c_at c_past c_known = some (r, q_c_at, q_c_known)) (hE : tg_Ei X D 0 0 cX4_undo .int r (tw_X D h0 x0 t0 t1 t2 r0 e0 e1 e2 rt z0 b0 b1 b2 b3 b4 c0 c1 c2 m0 i0 i1 i2 j0 j1 j2 k0 k1 k2 x_text x_typed t_pips t_many t_berths t_goal r_fault r_length r_kind r_start r_next r_number r_dice r_bt r_gt d_pips d_many d_berths d_goal a_shown a_calm a_windy a_turns a_many a_ever q_c_at c_past q_c_known i_at i_past i_known j_at j_past j_known x_kept x_cb x_ct x_chalked x_traced)) : tg_G X D 1 0 0 (tw_X D h0 x0 t0 t1 t2 r0 e0 e1 e2 rt z0 b0 b1 b2 b3 b4 c0 c1 c2 m0 i0 i1 i2 j0 j1 j2 k0 k1 k2 x_text x_typed t_pips t_many t_berths t_goal r_fault r_length r_kind r_start r_next r_number r_dice r_bt r_gt d_pips d_many d_berths d_goal a_shown a_calm a_windy a_turns a_many a_ever c_at c_past c_known i_at i_past i_known j_at j_past j_known x_kept x_cb x_ct x_chalked x_traced) [(0, .ref h0)] 0 [] := by
  unfold fX4_undo at hs
  refine tg_aload_n C dX4_undo_0 rfl 0 rfl ?_
  refine tg_get (v := .ref c0) C cfX4 0 rfl 5 (by decide) wm_244 rfl dX4_undo_1 ?_
  refine tg_get (v := .int c_known) C cfX1 15 rfl 3 (by decide) wm_199 rfl dX4_undo_4 ?_
  refine tg_if_ne (tgt := 13) C dX4_undo_7 (by decide) (fun cc1 => ?_) (fun cc1 => ?_)
  · have hs := tg_t cc1 hs
    refine tg_aload_n C dX4_undo_13 rfl 0 rfl ?_
    refine tg_get (v := .ref c0) C cfX4 0 rfl 5 (by decide) wm_244 rfl dX4_undo_14 ?_
    obtain ⟨gg2, vv3, ee4, hs⟩ := tg_b2_e hs
    refine tg_eV (ws' := (tw_X D h0 x0 t0 t1 t2 r0 e0 e1 e2 rt z0 b0 b1 b2 b3 b4 c0 c1 c2 m0 i0 i1 i2 j0 j1 j2 k0 k1 k2 x_text x_typed t_pips t_many t_berths t_goal r_fault r_length r_kind r_start r_next r_number r_dice r_bt r_gt d_pips d_many d_berths d_goal a_shown a_calm a_windy a_turns a_many a_ever gg2 c_past vv3 i_at i_past i_known j_at j_past j_known x_kept x_cb x_ct x_chalked x_traced)) (As := []) (rest := []) C V hl0 (kX1_stepBack l D c0 c1 c2 t0 t1 t2 c_at c_past c_known t_pips t_many t_berths t_goal gg2 vv3 ee4) wm_505 meX1_stepBack (by decide) [15, 16, 17, 2, 3, 4] rfl (by decide) rfl rfl rfl rfl (Nat.le_of_ble_eq_true rfl) rfl rfl rfl dX4_undo_17 ?_
    refine tg_aload_n C dX4_undo_20 rfl 0 rfl ?_
    refine tg_get (v := .ref c0) C cfX4 0 rfl 5 (by decide) wm_244 rfl dX4_undo_21 ?_
    refine tg_get (v := .int vv3) C cfX1 15 rfl 3 (by decide) wm_199 rfl dX4_undo_24 ?_
    obtain ⟨rfl, rfl, rfl⟩ := tg_i3 hs
    exact tg_iret hE rfl dX4_undo_27
  · have hs := tg_nf cc1 hs
    refine tg_bipush (v := (-2)) C dX4_undo_10 (by decide) ?_
    obtain ⟨rfl, rfl, rfl⟩ := tg_i3 hs
    exact tg_iret hE rfl dX4_undo_12
set_option maxHeartbeats 2000000 in
set_option maxRecDepth 20000 in
theorem kX4_undo (l : Launch) (D : tg_D) (h0 x0 t0 t1 t2 r0 e0 e1 e2 rt z0 b0 b1 b2 b3 b4 c0 c1 c2 m0 i0 i1 i2 j0 j1 j2 k0 k1 k2 : Nat) (x_text : Nat → Int32) (x_typed : Int32) (t_pips : Nat → Int32) (t_many : Nat → Int32) (t_berths : Int32) (t_goal : Int32) (r_fault : Int32) (r_length : Int32) (r_kind : Int32) (r_start : Int32) (r_next : Int32) (r_number : Int32) (r_dice : Int32) (r_bt : Int32) (r_gt : Int32) (d_pips : Nat → Int32) (d_many : Nat → Int32) (d_berths : Int32) (d_goal : Int32) (a_shown : Nat → Int32) (a_calm : Nat → Int32) (a_windy : Nat → Int32) (a_turns : Nat → Int32) (a_many : Int32) (a_ever : Int32) (c_at : Nat → Int32) (c_past : Nat → Int32) (c_known : Int32) (i_at : Nat → Int32) (i_past : Nat → Int32) (i_known : Int32) (j_at : Nat → Int32) (j_past : Nat → Int32) (j_known : Int32) (x_kept : Nat → Int32) (x_cb : Nat → Int32) (x_ct : Nat → Int32) (x_chalked : Int32) (x_traced : Int64) (r : Int32) (q_c_at : Nat → Int32) (q_c_known : Int32) (hs : fX4_undo c_at c_past c_known = some (r, q_c_at, q_c_known)) : Met l yX4_undo [Cond.code yX4_undo cX4_undo 1 (some .int)] (tg_rm 2 38) (tg_Pre D (tw_X D h0 x0 t0 t1 t2 r0 e0 e1 e2 rt z0 b0 b1 b2 b3 b4 c0 c1 c2 m0 i0 i1 i2 j0 j1 j2 k0 k1 k2 x_text x_typed t_pips t_many t_berths t_goal r_fault r_length r_kind r_start r_next r_number r_dice r_bt r_gt d_pips d_many d_berths d_goal a_shown a_calm a_windy a_turns a_many a_ever c_at c_past c_known i_at i_past i_known j_at j_past j_known x_kept x_cb x_ct x_chalked x_traced) [.ref h0]) (tg_Qe (some (.int r)) D (tw_X D h0 x0 t0 t1 t2 r0 e0 e1 e2 rt z0 b0 b1 b2 b3 b4 c0 c1 c2 m0 i0 i1 i2 j0 j1 j2 k0 k1 k2 x_text x_typed t_pips t_many t_berths t_goal r_fault r_length r_kind r_start r_next r_number r_dice r_bt r_gt d_pips d_many d_berths d_goal a_shown a_calm a_windy a_turns a_many a_ever q_c_at c_past q_c_known i_at i_past i_known j_at j_past j_known x_kept x_cb x_ct x_chalked x_traced) (tg_Ad (tw_X D h0 x0 t0 t1 t2 r0 e0 e1 e2 rt z0 b0 b1 b2 b3 b4 c0 c1 c2 m0 i0 i1 i2 j0 j1 j2 k0 k1 k2 x_text x_typed t_pips t_many t_berths t_goal r_fault r_length r_kind r_start r_next r_number r_dice r_bt r_gt d_pips d_many d_berths d_goal a_shown a_calm a_windy a_turns a_many a_ever c_at c_past c_known i_at i_past i_known j_at j_past j_known x_kept x_cb x_ct x_chalked x_traced))) 0 0 (tg_Ad (tw_X D h0 x0 t0 t1 t2 r0 e0 e1 e2 rt z0 b0 b1 b2 b3 b4 c0 c1 c2 m0 i0 i1 i2 j0 j1 j2 k0 k1 k2 x_text x_typed t_pips t_many t_berths t_goal r_fault r_length r_kind r_start r_next r_number r_dice r_bt r_gt d_pips d_many d_berths d_goal a_shown a_calm a_windy a_turns a_many a_ever c_at c_past c_known i_at i_past i_known j_at j_past j_known x_kept x_cb x_ct x_chalked x_traced)) := tg_metEi (by decide) (Nat.le_of_ble_eq_true rfl) (fun X hl0 C V hE => vX4_undo l D h0 x0 t0 t1 t2 r0 e0 e1 e2 rt z0 b0 b1 b2 b3 b4 c0 c1 c2 m0 i0 i1 i2 j0 j1 j2 k0 k1 k2 x_text x_typed t_pips t_many t_berths t_goal r_fault r_length r_kind r_start r_next r_number r_dice r_bt r_gt d_pips d_many d_berths d_goal a_shown a_calm a_windy a_turns a_many a_ever c_at c_past c_known i_at i_past i_known j_at j_past j_known x_kept x_cb x_ct x_chalked x_traced X hl0 C V r q_c_at q_c_known hs hE)
def fX4_now (t_berths : Int32) (t_goal : Int32) (c_at : Nat → Int32) (p1 : Int32) : Option (Int32) := if p1 = 0 then (tg_b1 (fX1_whoMoves c_at t_goal) fun rr2 => some rr2) else (if p1 = 1 then (tg_b1 (fX1_wind c_at) fun rr5 => some rr5) else (if p1 = 2 then (tg_b1 (fX1_shown c_at) fun rr8 => some rr8) else (if p1 = 3 then (tg_b1 (fX1_open c_at t_berths) fun rr11 => some rr11) else (if p1 = 4 then (tg_b1 (fX1_winner c_at t_goal) fun rr14 => some rr14) else (if p1 = 5 then (tg_b1 (fX1_tidesOf c_at 0) fun rr17 => tg_b1 (fX1_tidesOf c_at 1) fun rr19 => some (rr17 - rr19)) else (some (-1000000)))))))
set_option maxHeartbeats 2000000 in
set_option maxRecDepth 20000 in
theorem vX4_now (l : Launch) (D : tg_D) (h0 x0 t0 t1 t2 r0 e0 e1 e2 rt z0 b0 b1 b2 b3 b4 c0 c1 c2 m0 i0 i1 i2 j0 j1 j2 k0 k1 k2 : Nat) (x_text : Nat → Int32) (x_typed : Int32) (t_pips : Nat → Int32) (t_many : Nat → Int32) (t_berths : Int32) (t_goal : Int32) (r_fault : Int32) (r_length : Int32) (r_kind : Int32) (r_start : Int32) (r_next : Int32) (r_number : Int32) (r_dice : Int32) (r_bt : Int32) (r_gt : Int32) (d_pips : Nat → Int32) (d_many : Nat → Int32) (d_berths : Int32) (d_goal : Int32) (a_shown : Nat → Int32) (a_calm : Nat → Int32) (a_windy : Nat → Int32) (a_turns : Nat → Int32) (a_many : Int32) (a_ever : Int32) (c_at : Nat → Int32) (c_past : Nat → Int32) (c_known : Int32) (i_at : Nat → Int32) (i_past : Nat → Int32) (i_known : Int32) (j_at : Nat → Int32) (j_past : Nat → Int32) (j_known : Int32) (x_kept : Nat → Int32) (x_cb : Nat → Int32) (x_ct : Nat → Int32) (x_chalked : Int32) (x_traced : Int64) (p1 : Int32) (X : tg_X) (hl0 : tg_l X = l) (C : tg_C X D 2 cX4_now RX4 4 87 0 0) (r : Int32) (hs : fX4_now t_berths t_goal c_at p1 = some r) (hE : tg_Ei X D 0 0 cX4_now .int r (tw_X D h0 x0 t0 t1 t2 r0 e0 e1 e2 rt z0 b0 b1 b2 b3 b4 c0 c1 c2 m0 i0 i1 i2 j0 j1 j2 k0 k1 k2 x_text x_typed t_pips t_many t_berths t_goal r_fault r_length r_kind r_start r_next r_number r_dice r_bt r_gt d_pips d_many d_berths d_goal a_shown a_calm a_windy a_turns a_many a_ever c_at c_past c_known i_at i_past i_known j_at j_past j_known x_kept x_cb x_ct x_chalked x_traced)) : tg_G X D 2 0 0 (tw_X D h0 x0 t0 t1 t2 r0 e0 e1 e2 rt z0 b0 b1 b2 b3 b4 c0 c1 c2 m0 i0 i1 i2 j0 j1 j2 k0 k1 k2 x_text x_typed t_pips t_many t_berths t_goal r_fault r_length r_kind r_start r_next r_number r_dice r_bt r_gt d_pips d_many d_berths d_goal a_shown a_calm a_windy a_turns a_many a_ever c_at c_past c_known i_at i_past i_known j_at j_past j_known x_kept x_cb x_ct x_chalked x_traced) [(0, .ref h0), (1, .int p1)] 0 [] := by
  unfold fX4_now at hs
  refine tg_iload_n C dX4_now_0 rfl 1 rfl ?_
  by_cases ss1 : p1 = 0
  · have hs := tg_t ss1 hs
    refine tg_swIn (off := 39) (tgt := 40) C 0 ss1 dX4_now_1 (by decide) (by decide) ?_
    refine tg_aload_n C dX4_now_40 rfl 0 rfl ?_
    refine tg_get (v := .ref c0) C cfX4 0 rfl 5 (by decide) wm_244 rfl dX4_now_41 ?_
    obtain ⟨rr2, ee3, hs⟩ := tg_b1_e hs
    refine tg_pV (As := []) (rest := []) C hl0 (kX1_whoMoves l D c0 c1 c2 t0 t1 t2 c_at c_past c_known t_pips t_many t_berths t_goal rr2 ee3) wm_489 meX1_whoMoves (by decide) [15, 16, 17, 2, 3, 4] rfl (by decide) rfl rfl rfl rfl (Nat.le_of_ble_eq_true rfl) dX4_now_44 ?_
    obtain rfl := Option.some.inj hs
    exact tg_iret hE rfl dX4_now_47
  · have hs := tg_f ss1 hs
    by_cases ss4 : p1 = 1
    · have hs := tg_t ss4 hs
      refine tg_swIn (off := 47) (tgt := 48) C 1 ss4 dX4_now_1 (by decide) (by decide) ?_
      refine tg_aload_n C dX4_now_48 rfl 0 rfl ?_
      refine tg_get (v := .ref c0) C cfX4 0 rfl 5 (by decide) wm_244 rfl dX4_now_49 ?_
      obtain ⟨rr5, ee6, hs⟩ := tg_b1_e hs
      refine tg_pV (As := []) (rest := []) C hl0 (kX1_wind l D c0 c1 c2 t0 t1 t2 c_at c_past c_known t_pips t_many t_berths t_goal rr5 ee6) wm_513 meX1_wind (by decide) [15, 16, 17, 2, 3, 4] rfl (by decide) rfl rfl rfl rfl (Nat.le_of_ble_eq_true rfl) dX4_now_52 ?_
      obtain rfl := Option.some.inj hs
      exact tg_iret hE rfl dX4_now_55
    · have hs := tg_f ss4 hs
      by_cases ss7 : p1 = 2
      · have hs := tg_t ss7 hs
        refine tg_swIn (off := 55) (tgt := 56) C 2 ss7 dX4_now_1 (by decide) (by decide) ?_
        refine tg_aload_n C dX4_now_56 rfl 0 rfl ?_
        refine tg_get (v := .ref c0) C cfX4 0 rfl 5 (by decide) wm_244 rfl dX4_now_57 ?_
        obtain ⟨rr8, ee9, hs⟩ := tg_b1_e hs
        refine tg_pV (As := []) (rest := []) C hl0 (kX1_shown l D c0 c1 c2 t0 t1 t2 c_at c_past c_known t_pips t_many t_berths t_goal rr8 ee9) wm_514 meX1_shown (by decide) [15, 16, 17, 2, 3, 4] rfl (by decide) rfl rfl rfl rfl (Nat.le_of_ble_eq_true rfl) dX4_now_60 ?_
        obtain rfl := Option.some.inj hs
        exact tg_iret hE rfl dX4_now_63
      · have hs := tg_f ss7 hs
        by_cases ss10 : p1 = 3
        · have hs := tg_t ss10 hs
          refine tg_swIn (off := 63) (tgt := 64) C 3 ss10 dX4_now_1 (by decide) (by decide) ?_
          refine tg_aload_n C dX4_now_64 rfl 0 rfl ?_
          refine tg_get (v := .ref c0) C cfX4 0 rfl 5 (by decide) wm_244 rfl dX4_now_65 ?_
          obtain ⟨rr11, ee12, hs⟩ := tg_b1_e hs
          refine tg_pV (As := []) (rest := []) C hl0 (kX1_open l D c0 c1 c2 t0 t1 t2 c_at c_past c_known t_pips t_many t_berths t_goal rr11 ee12) wm_440 meX1_open (by decide) [15, 16, 17, 2, 3, 4] rfl (by decide) rfl rfl rfl rfl (Nat.le_of_ble_eq_true rfl) dX4_now_68 ?_
          obtain rfl := Option.some.inj hs
          exact tg_iret hE rfl dX4_now_71
        · have hs := tg_f ss10 hs
          by_cases ss13 : p1 = 4
          · have hs := tg_t ss13 hs
            refine tg_swIn (off := 71) (tgt := 72) C 4 ss13 dX4_now_1 (by decide) (by decide) ?_
            refine tg_aload_n C dX4_now_72 rfl 0 rfl ?_
            refine tg_get (v := .ref c0) C cfX4 0 rfl 5 (by decide) wm_244 rfl dX4_now_73 ?_
            obtain ⟨rr14, ee15, hs⟩ := tg_b1_e hs
            refine tg_pV (As := []) (rest := []) C hl0 (kX1_winner l D c0 c1 c2 t0 t1 t2 c_at c_past c_known t_pips t_many t_berths t_goal rr14 ee15) wm_420 meX1_winner (by decide) [15, 16, 17, 2, 3, 4] rfl (by decide) rfl rfl rfl rfl (Nat.le_of_ble_eq_true rfl) dX4_now_76 ?_
            obtain rfl := Option.some.inj hs
            exact tg_iret hE rfl dX4_now_79
          · have hs := tg_f ss13 hs
            by_cases ss16 : p1 = 5
            · have hs := tg_t ss16 hs
              refine tg_swIn (off := 79) (tgt := 80) C 5 ss16 dX4_now_1 (by decide) (by decide) ?_
              refine tg_aload_n C dX4_now_80 rfl 0 rfl ?_
              refine tg_get (v := .ref c0) C cfX4 0 rfl 5 (by decide) wm_244 rfl dX4_now_81 ?_
              refine tg_iconst (v := 0) C dX4_now_84 (by decide) ?_
              obtain ⟨rr17, ee18, hs⟩ := tg_b1_e hs
              refine tg_pV (As := [.int 0]) (rest := []) C hl0 (kX1_tidesOf l D c0 c1 c2 t0 t1 t2 c_at c_past c_known t_pips t_many t_berths t_goal 0 rr17 ee18) wm_381 meX1_tidesOf (by decide) [15, 16, 17, 2, 3, 4] rfl (by decide) rfl rfl rfl rfl (Nat.le_of_ble_eq_true rfl) dX4_now_85 ?_
              refine tg_aload_n C dX4_now_88 rfl 0 rfl ?_
              refine tg_get (v := .ref c0) C cfX4 0 rfl 5 (by decide) wm_244 rfl dX4_now_89 ?_
              refine tg_iconst (v := 1) C dX4_now_92 (by decide) ?_
              obtain ⟨rr19, ee20, hs⟩ := tg_b1_e hs
              refine tg_pV (As := [.int 1]) (rest := [.int rr17]) C hl0 (kX1_tidesOf l D c0 c1 c2 t0 t1 t2 c_at c_past c_known t_pips t_many t_berths t_goal 1 rr19 ee20) wm_381 meX1_tidesOf (by decide) [15, 16, 17, 2, 3, 4] rfl (by decide) rfl rfl rfl rfl (Nat.le_of_ble_eq_true rfl) dX4_now_93 ?_
              refine tg_isub C dX4_now_96 ?_
              obtain rfl := Option.some.inj hs
              exact tg_iret hE rfl dX4_now_97
            · have hs := tg_f ss16 hs
              refine tg_swOut (tgt := 98) C (by have a0 := lv_neT (a := 0) ss1 rfl; have a1 := lv_neT (a := 1) ss4 rfl; have a2 := lv_neT (a := 2) ss7 rfl; have a3 := lv_neT (a := 3) ss10 rfl; have a4 := lv_neT (a := 4) ss13 rfl; have a5 := lv_neT (a := 5) ss16 rfl; omega) dX4_now_1 (by decide) ?_
              refine tg_ldc C wm_515 dX4_now_98 ?_
              obtain rfl := Option.some.inj hs
              exact tg_iret hE rfl dX4_now_100
set_option maxHeartbeats 2000000 in
set_option maxRecDepth 20000 in
theorem kX4_now (l : Launch) (D : tg_D) (h0 x0 t0 t1 t2 r0 e0 e1 e2 rt z0 b0 b1 b2 b3 b4 c0 c1 c2 m0 i0 i1 i2 j0 j1 j2 k0 k1 k2 : Nat) (x_text : Nat → Int32) (x_typed : Int32) (t_pips : Nat → Int32) (t_many : Nat → Int32) (t_berths : Int32) (t_goal : Int32) (r_fault : Int32) (r_length : Int32) (r_kind : Int32) (r_start : Int32) (r_next : Int32) (r_number : Int32) (r_dice : Int32) (r_bt : Int32) (r_gt : Int32) (d_pips : Nat → Int32) (d_many : Nat → Int32) (d_berths : Int32) (d_goal : Int32) (a_shown : Nat → Int32) (a_calm : Nat → Int32) (a_windy : Nat → Int32) (a_turns : Nat → Int32) (a_many : Int32) (a_ever : Int32) (c_at : Nat → Int32) (c_past : Nat → Int32) (c_known : Int32) (i_at : Nat → Int32) (i_past : Nat → Int32) (i_known : Int32) (j_at : Nat → Int32) (j_past : Nat → Int32) (j_known : Int32) (x_kept : Nat → Int32) (x_cb : Nat → Int32) (x_ct : Nat → Int32) (x_chalked : Int32) (x_traced : Int64) (p1 : Int32) (r : Int32) (hs : fX4_now t_berths t_goal c_at p1 = some r) : Met l yX4_now [Cond.code yX4_now cX4_now 2 (some .int)] (tg_rm 4 87) (tg_Pre D (tw_X D h0 x0 t0 t1 t2 r0 e0 e1 e2 rt z0 b0 b1 b2 b3 b4 c0 c1 c2 m0 i0 i1 i2 j0 j1 j2 k0 k1 k2 x_text x_typed t_pips t_many t_berths t_goal r_fault r_length r_kind r_start r_next r_number r_dice r_bt r_gt d_pips d_many d_berths d_goal a_shown a_calm a_windy a_turns a_many a_ever c_at c_past c_known i_at i_past i_known j_at j_past j_known x_kept x_cb x_ct x_chalked x_traced) [.ref h0, .int p1]) (vp_Si (fun r' => r' = r)) 0 0 (fun _ => False) := tg_metI (by decide) (Nat.le_of_ble_eq_true rfl) (fun X hl0 C hE => vX4_now l D h0 x0 t0 t1 t2 r0 e0 e1 e2 rt z0 b0 b1 b2 b3 b4 c0 c1 c2 m0 i0 i1 i2 j0 j1 j2 k0 k1 k2 x_text x_typed t_pips t_many t_berths t_goal r_fault r_length r_kind r_start r_next r_number r_dice r_bt r_gt d_pips d_many d_berths d_goal a_shown a_calm a_windy a_turns a_many a_ever c_at c_past c_known i_at i_past i_known j_at j_past j_known x_kept x_cb x_ct x_chalked x_traced p1 X hl0 C r hs hE)
def fX4_throwsFor (a_calm : Nat → Int32) (a_windy : Nat → Int32) (a_turns : Nat → Int32) (a_many : Int32) (c_at : Nat → Int32) (p1 : Int32) : Option (Int32) := tg_b1 (fX1_free c_at) fun rr1 => tg_b1 (fX4_bit p1) fun rr3 => tg_b1 (fX1_wind c_at) fun rr5 => tg_b1 (fX0_manyOpening a_calm a_windy a_turns a_many (rr1 &&& rr3) rr5) fun rr7 => some rr7
set_option maxHeartbeats 2000000 in
set_option maxRecDepth 20000 in
theorem vX4_throwsFor (l : Launch) (D : tg_D) (h0 x0 t0 t1 t2 r0 e0 e1 e2 rt z0 b0 b1 b2 b3 b4 c0 c1 c2 m0 i0 i1 i2 j0 j1 j2 k0 k1 k2 : Nat) (x_text : Nat → Int32) (x_typed : Int32) (t_pips : Nat → Int32) (t_many : Nat → Int32) (t_berths : Int32) (t_goal : Int32) (r_fault : Int32) (r_length : Int32) (r_kind : Int32) (r_start : Int32) (r_next : Int32) (r_number : Int32) (r_dice : Int32) (r_bt : Int32) (r_gt : Int32) (d_pips : Nat → Int32) (d_many : Nat → Int32) (d_berths : Int32) (d_goal : Int32) (a_shown : Nat → Int32) (a_calm : Nat → Int32) (a_windy : Nat → Int32) (a_turns : Nat → Int32) (a_many : Int32) (a_ever : Int32) (c_at : Nat → Int32) (c_past : Nat → Int32) (c_known : Int32) (i_at : Nat → Int32) (i_past : Nat → Int32) (i_known : Int32) (j_at : Nat → Int32) (j_past : Nat → Int32) (j_known : Int32) (x_kept : Nat → Int32) (x_cb : Nat → Int32) (x_ct : Nat → Int32) (x_chalked : Int32) (x_traced : Int64) (p1 : Int32) (X : tg_X) (hl0 : tg_l X = l) (C : tg_C X D 2 cX4_throwsFor RX4 3 68 0 0) (r : Int32) (hs : fX4_throwsFor a_calm a_windy a_turns a_many c_at p1 = some r) (hE : tg_Ei X D 0 0 cX4_throwsFor .int r (tw_X D h0 x0 t0 t1 t2 r0 e0 e1 e2 rt z0 b0 b1 b2 b3 b4 c0 c1 c2 m0 i0 i1 i2 j0 j1 j2 k0 k1 k2 x_text x_typed t_pips t_many t_berths t_goal r_fault r_length r_kind r_start r_next r_number r_dice r_bt r_gt d_pips d_many d_berths d_goal a_shown a_calm a_windy a_turns a_many a_ever c_at c_past c_known i_at i_past i_known j_at j_past j_known x_kept x_cb x_ct x_chalked x_traced)) : tg_G X D 2 0 0 (tw_X D h0 x0 t0 t1 t2 r0 e0 e1 e2 rt z0 b0 b1 b2 b3 b4 c0 c1 c2 m0 i0 i1 i2 j0 j1 j2 k0 k1 k2 x_text x_typed t_pips t_many t_berths t_goal r_fault r_length r_kind r_start r_next r_number r_dice r_bt r_gt d_pips d_many d_berths d_goal a_shown a_calm a_windy a_turns a_many a_ever c_at c_past c_known i_at i_past i_known j_at j_past j_known x_kept x_cb x_ct x_chalked x_traced) [(0, .ref h0), (1, .int p1)] 0 [] := by
  unfold fX4_throwsFor at hs
  refine tg_aload_n C dX4_throwsFor_0 rfl 0 rfl ?_
  refine tg_get (v := .ref b0) C cfX4 0 rfl 4 (by decide) wm_243 rfl dX4_throwsFor_1 ?_
  refine tg_aload_n C dX4_throwsFor_4 rfl 0 rfl ?_
  refine tg_get (v := .ref c0) C cfX4 0 rfl 5 (by decide) wm_244 rfl dX4_throwsFor_5 ?_
  obtain ⟨rr1, ee2, hs⟩ := tg_b1_e hs
  refine tg_pV (As := []) (rest := [.ref b0]) C hl0 (kX1_free l D c0 c1 c2 t0 t1 t2 c_at c_past c_known t_pips t_many t_berths t_goal rr1 ee2) wm_399 meX1_free (by decide) [15, 16, 17, 2, 3, 4] rfl (by decide) rfl rfl rfl rfl (Nat.le_of_ble_eq_true rfl) dX4_throwsFor_8 ?_
  refine tg_iload_n C dX4_throwsFor_11 rfl 1 rfl ?_
  obtain ⟨rr3, ee4, hs⟩ := tg_b1_e hs
  refine tg_pS (As := [.int p1]) (rest := [.int rr1, .ref b0]) C hl0 (kX4_bit l D p1 rr3 ee4) wm_375 meX4_bit (by decide) rfl rfl (Nat.le_of_ble_eq_true rfl) dX4_throwsFor_12 ?_
  refine tg_iand C dX4_throwsFor_15 ?_
  refine tg_aload_n C dX4_throwsFor_16 rfl 0 rfl ?_
  refine tg_get (v := .ref c0) C cfX4 0 rfl 5 (by decide) wm_244 rfl dX4_throwsFor_17 ?_
  obtain ⟨rr5, ee6, hs⟩ := tg_b1_e hs
  refine tg_pV (As := []) (rest := [.int (rr1 &&& rr3), .ref b0]) C hl0 (kX1_wind l D c0 c1 c2 t0 t1 t2 c_at c_past c_known t_pips t_many t_berths t_goal rr5 ee6) wm_513 meX1_wind (by decide) [15, 16, 17, 2, 3, 4] rfl (by decide) rfl rfl rfl rfl (Nat.le_of_ble_eq_true rfl) dX4_throwsFor_20 ?_
  obtain ⟨rr7, ee8, hs⟩ := tg_b1_e hs
  refine tg_pV (As := [.int (rr1 &&& rr3), .int rr5]) (rest := []) C hl0 (kX0_manyOpening l D b0 b1 b2 b3 b4 a_shown a_calm a_windy a_turns a_many a_ever (rr1 &&& rr3) rr5 rr7 ee8) wm_527 meX0_manyOpening (by decide) [10, 11, 12, 13, 14] rfl (by decide) rfl rfl rfl rfl (Nat.le_of_ble_eq_true rfl) dX4_throwsFor_23 ?_
  obtain rfl := Option.some.inj hs
  exact tg_iret hE rfl dX4_throwsFor_26
set_option maxHeartbeats 2000000 in
set_option maxRecDepth 20000 in
theorem kX4_throwsFor (l : Launch) (D : tg_D) (h0 x0 t0 t1 t2 r0 e0 e1 e2 rt z0 b0 b1 b2 b3 b4 c0 c1 c2 m0 i0 i1 i2 j0 j1 j2 k0 k1 k2 : Nat) (x_text : Nat → Int32) (x_typed : Int32) (t_pips : Nat → Int32) (t_many : Nat → Int32) (t_berths : Int32) (t_goal : Int32) (r_fault : Int32) (r_length : Int32) (r_kind : Int32) (r_start : Int32) (r_next : Int32) (r_number : Int32) (r_dice : Int32) (r_bt : Int32) (r_gt : Int32) (d_pips : Nat → Int32) (d_many : Nat → Int32) (d_berths : Int32) (d_goal : Int32) (a_shown : Nat → Int32) (a_calm : Nat → Int32) (a_windy : Nat → Int32) (a_turns : Nat → Int32) (a_many : Int32) (a_ever : Int32) (c_at : Nat → Int32) (c_past : Nat → Int32) (c_known : Int32) (i_at : Nat → Int32) (i_past : Nat → Int32) (i_known : Int32) (j_at : Nat → Int32) (j_past : Nat → Int32) (j_known : Int32) (x_kept : Nat → Int32) (x_cb : Nat → Int32) (x_ct : Nat → Int32) (x_chalked : Int32) (x_traced : Int64) (p1 : Int32) (r : Int32) (hs : fX4_throwsFor a_calm a_windy a_turns a_many c_at p1 = some r) : Met l yX4_throwsFor [Cond.code yX4_throwsFor cX4_throwsFor 2 (some .int)] (tg_rm 3 68) (tg_Pre D (tw_X D h0 x0 t0 t1 t2 r0 e0 e1 e2 rt z0 b0 b1 b2 b3 b4 c0 c1 c2 m0 i0 i1 i2 j0 j1 j2 k0 k1 k2 x_text x_typed t_pips t_many t_berths t_goal r_fault r_length r_kind r_start r_next r_number r_dice r_bt r_gt d_pips d_many d_berths d_goal a_shown a_calm a_windy a_turns a_many a_ever c_at c_past c_known i_at i_past i_known j_at j_past j_known x_kept x_cb x_ct x_chalked x_traced) [.ref h0, .int p1]) (vp_Si (fun r' => r' = r)) 0 0 (fun _ => False) := tg_metI (by decide) (Nat.le_of_ble_eq_true rfl) (fun X hl0 C hE => vX4_throwsFor l D h0 x0 t0 t1 t2 r0 e0 e1 e2 rt z0 b0 b1 b2 b3 b4 c0 c1 c2 m0 i0 i1 i2 j0 j1 j2 k0 k1 k2 x_text x_typed t_pips t_many t_berths t_goal r_fault r_length r_kind r_start r_next r_number r_dice r_bt r_gt d_pips d_many d_berths d_goal a_shown a_calm a_windy a_turns a_many a_ever c_at c_past c_known i_at i_past i_known j_at j_past j_known x_kept x_cb x_ct x_chalked x_traced p1 X hl0 C r hs hE)
def fX4_chance (t_berths : Int32) (a_calm : Nat → Int32) (a_windy : Nat → Int32) (a_turns : Nat → Int32) (a_many : Int32) (c_at : Nat → Int32) (p1 : Int32) (p2 : Int32) : Option (Int32) := tg_b1 (fX4_isBerth t_berths p1) fun rr1 => if rr1 = 0 then (some (-1)) else (tg_b1 (fX4_isPart p2) fun rr4 => if ¬ rr4 = 0 then (tg_b1 (fX4_throwsFor a_calm a_windy a_turns a_many c_at p1) fun rr7 => tg_b1 (fX4_partOf rr7 a_many p2) fun rr9 => some rr9) else (some (-1)))
set_option maxHeartbeats 2000000 in
set_option maxRecDepth 20000 in
theorem vX4_chance (l : Launch) (D : tg_D) (h0 x0 t0 t1 t2 r0 e0 e1 e2 rt z0 b0 b1 b2 b3 b4 c0 c1 c2 m0 i0 i1 i2 j0 j1 j2 k0 k1 k2 : Nat) (x_text : Nat → Int32) (x_typed : Int32) (t_pips : Nat → Int32) (t_many : Nat → Int32) (t_berths : Int32) (t_goal : Int32) (r_fault : Int32) (r_length : Int32) (r_kind : Int32) (r_start : Int32) (r_next : Int32) (r_number : Int32) (r_dice : Int32) (r_bt : Int32) (r_gt : Int32) (d_pips : Nat → Int32) (d_many : Nat → Int32) (d_berths : Int32) (d_goal : Int32) (a_shown : Nat → Int32) (a_calm : Nat → Int32) (a_windy : Nat → Int32) (a_turns : Nat → Int32) (a_many : Int32) (a_ever : Int32) (c_at : Nat → Int32) (c_past : Nat → Int32) (c_known : Int32) (i_at : Nat → Int32) (i_past : Nat → Int32) (i_known : Int32) (j_at : Nat → Int32) (j_past : Nat → Int32) (j_known : Int32) (x_kept : Nat → Int32) (x_cb : Nat → Int32) (x_ct : Nat → Int32) (x_chalked : Int32) (x_traced : Int64) (p1 : Int32) (p2 : Int32) (X : tg_X) (hl0 : tg_l X = l) (C : tg_C X D 3 cX4_chance RX4 4 89 0 0) (r : Int32) (hs : fX4_chance t_berths a_calm a_windy a_turns a_many c_at p1 p2 = some r) (hE : tg_Ei X D 0 0 cX4_chance .int r (tw_X D h0 x0 t0 t1 t2 r0 e0 e1 e2 rt z0 b0 b1 b2 b3 b4 c0 c1 c2 m0 i0 i1 i2 j0 j1 j2 k0 k1 k2 x_text x_typed t_pips t_many t_berths t_goal r_fault r_length r_kind r_start r_next r_number r_dice r_bt r_gt d_pips d_many d_berths d_goal a_shown a_calm a_windy a_turns a_many a_ever c_at c_past c_known i_at i_past i_known j_at j_past j_known x_kept x_cb x_ct x_chalked x_traced)) : tg_G X D 3 0 0 (tw_X D h0 x0 t0 t1 t2 r0 e0 e1 e2 rt z0 b0 b1 b2 b3 b4 c0 c1 c2 m0 i0 i1 i2 j0 j1 j2 k0 k1 k2 x_text x_typed t_pips t_many t_berths t_goal r_fault r_length r_kind r_start r_next r_number r_dice r_bt r_gt d_pips d_many d_berths d_goal a_shown a_calm a_windy a_turns a_many a_ever c_at c_past c_known i_at i_past i_known j_at j_past j_known x_kept x_cb x_ct x_chalked x_traced) [(0, .ref h0), (1, .int p1), (2, .int p2)] 0 [] := by
  unfold fX4_chance at hs
  refine tg_aload_n C dX4_chance_0 rfl 0 rfl ?_
  refine tg_iload_n C dX4_chance_1 rfl 1 rfl ?_
  obtain ⟨rr1, ee2, hs⟩ := tg_b1_e hs
  refine tg_pVs (As := [.int p1]) (rest := []) C hl0 (kX4_isBerth l D h0 x0 t0 t1 t2 r0 e0 e1 e2 rt z0 b0 b1 b2 b3 b4 c0 c1 c2 m0 i0 i1 i2 j0 j1 j2 k0 k1 k2 x_text x_typed t_pips t_many t_berths t_goal r_fault r_length r_kind r_start r_next r_number r_dice r_bt r_gt d_pips d_many d_berths d_goal a_shown a_calm a_windy a_turns a_many a_ever c_at c_past c_known i_at i_past i_known j_at j_past j_known x_kept x_cb x_ct x_chalked x_traced p1 rr1 ee2) wm_360 meX4_isBerth (by decide) rfl rfl rfl rfl (Nat.le_of_ble_eq_true rfl) dX4_chance_2 ?_
  refine tg_if_eq (tgt := 15) C dX4_chance_5 (by decide) (fun cc3 => ?_) (fun cc3 => ?_)
  · have hs := tg_t cc3 hs
    refine tg_iconst (v := (-1)) C dX4_chance_15 (by decide) ?_
    obtain rfl := Option.some.inj hs
    exact tg_iret hE rfl dX4_chance_16
  · have hs := tg_f cc3 hs
    refine tg_iload_n C dX4_chance_8 rfl 2 rfl ?_
    obtain ⟨rr4, ee5, hs⟩ := tg_b1_e hs
    refine tg_pS (As := [.int p2]) (rest := []) C hl0 (kX4_isPart l D p2 rr4 ee5) wm_520 meX4_isPart (by decide) rfl rfl (Nat.le_of_ble_eq_true rfl) dX4_chance_9 ?_
    refine tg_if_ne (tgt := 17) C dX4_chance_12 (by decide) (fun cc6 => ?_) (fun cc6 => ?_)
    · have hs := tg_t cc6 hs
      refine tg_aload_n C dX4_chance_17 rfl 0 rfl ?_
      refine tg_iload_n C dX4_chance_18 rfl 1 rfl ?_
      obtain ⟨rr7, ee8, hs⟩ := tg_b1_e hs
      refine tg_pVs (As := [.int p1]) (rest := []) C hl0 (kX4_throwsFor l D h0 x0 t0 t1 t2 r0 e0 e1 e2 rt z0 b0 b1 b2 b3 b4 c0 c1 c2 m0 i0 i1 i2 j0 j1 j2 k0 k1 k2 x_text x_typed t_pips t_many t_berths t_goal r_fault r_length r_kind r_start r_next r_number r_dice r_bt r_gt d_pips d_many d_berths d_goal a_shown a_calm a_windy a_turns a_many a_ever c_at c_past c_known i_at i_past i_known j_at j_past j_known x_kept x_cb x_ct x_chalked x_traced p1 rr7 ee8) wm_523 meX4_throwsFor (by decide) rfl rfl rfl rfl (Nat.le_of_ble_eq_true rfl) dX4_chance_19 ?_
      refine tg_aload_n C dX4_chance_22 rfl 0 rfl ?_
      refine tg_get (v := .ref b0) C cfX4 0 rfl 4 (by decide) wm_243 rfl dX4_chance_23 ?_
      refine tg_get (v := .int a_many) C cfX0 10 rfl 4 (by decide) wm_168 rfl dX4_chance_26 ?_
      refine tg_iload_n C dX4_chance_29 rfl 2 rfl ?_
      obtain ⟨rr9, ee10, hs⟩ := tg_b1_e hs
      refine tg_pS (As := [.int rr7, .int a_many, .int p2]) (rest := []) C hl0 (kX4_partOf l D rr7 a_many p2 rr9 ee10) wm_539 meX4_partOf (by decide) rfl rfl (Nat.le_of_ble_eq_true rfl) dX4_chance_30 ?_
      obtain rfl := Option.some.inj hs
      exact tg_iret hE rfl dX4_chance_33
    · have hs := tg_nf cc6 hs
      refine tg_iconst (v := (-1)) C dX4_chance_15 (by decide) ?_
      obtain rfl := Option.some.inj hs
      exact tg_iret hE rfl dX4_chance_16
set_option maxHeartbeats 2000000 in
set_option maxRecDepth 20000 in
theorem kX4_chance (l : Launch) (D : tg_D) (h0 x0 t0 t1 t2 r0 e0 e1 e2 rt z0 b0 b1 b2 b3 b4 c0 c1 c2 m0 i0 i1 i2 j0 j1 j2 k0 k1 k2 : Nat) (x_text : Nat → Int32) (x_typed : Int32) (t_pips : Nat → Int32) (t_many : Nat → Int32) (t_berths : Int32) (t_goal : Int32) (r_fault : Int32) (r_length : Int32) (r_kind : Int32) (r_start : Int32) (r_next : Int32) (r_number : Int32) (r_dice : Int32) (r_bt : Int32) (r_gt : Int32) (d_pips : Nat → Int32) (d_many : Nat → Int32) (d_berths : Int32) (d_goal : Int32) (a_shown : Nat → Int32) (a_calm : Nat → Int32) (a_windy : Nat → Int32) (a_turns : Nat → Int32) (a_many : Int32) (a_ever : Int32) (c_at : Nat → Int32) (c_past : Nat → Int32) (c_known : Int32) (i_at : Nat → Int32) (i_past : Nat → Int32) (i_known : Int32) (j_at : Nat → Int32) (j_past : Nat → Int32) (j_known : Int32) (x_kept : Nat → Int32) (x_cb : Nat → Int32) (x_ct : Nat → Int32) (x_chalked : Int32) (x_traced : Int64) (p1 : Int32) (p2 : Int32) (r : Int32) (hs : fX4_chance t_berths a_calm a_windy a_turns a_many c_at p1 p2 = some r) : Met l yX4_chance [Cond.code yX4_chance cX4_chance 3 (some .int)] (tg_rm 4 89) (tg_Pre D (tw_X D h0 x0 t0 t1 t2 r0 e0 e1 e2 rt z0 b0 b1 b2 b3 b4 c0 c1 c2 m0 i0 i1 i2 j0 j1 j2 k0 k1 k2 x_text x_typed t_pips t_many t_berths t_goal r_fault r_length r_kind r_start r_next r_number r_dice r_bt r_gt d_pips d_many d_berths d_goal a_shown a_calm a_windy a_turns a_many a_ever c_at c_past c_known i_at i_past i_known j_at j_past j_known x_kept x_cb x_ct x_chalked x_traced) [.ref h0, .int p1, .int p2]) (vp_Si (fun r' => r' = r)) 0 0 (fun _ => False) := tg_metI (by decide) (Nat.le_of_ble_eq_true rfl) (fun X hl0 C hE => vX4_chance l D h0 x0 t0 t1 t2 r0 e0 e1 e2 rt z0 b0 b1 b2 b3 b4 c0 c1 c2 m0 i0 i1 i2 j0 j1 j2 k0 k1 k2 x_text x_typed t_pips t_many t_berths t_goal r_fault r_length r_kind r_start r_next r_number r_dice r_bt r_gt d_pips d_many d_berths d_goal a_shown a_calm a_windy a_turns a_many a_ever c_at c_past c_known i_at i_past i_known j_at j_past j_known x_kept x_cb x_ct x_chalked x_traced p1 p2 X hl0 C r hs hE)
def fX4_odds (a_calm : Nat → Int32) (a_windy : Nat → Int32) (a_turns : Nat → Int32) (a_many : Int32) (c_at : Nat → Int32) (p1 : Int32) (p2 : Int32) : Option (Int32) := tg_b1 (fX4_isPart p2) fun rr1 => if ¬ rr1 = 0 then (tg_b1 (fX1_free c_at) fun rr4 => tg_b1 (fX1_wind c_at) fun rr6 => tg_b1 (fX0_manyOpening a_calm a_windy a_turns a_many rr4 rr6) fun rr8 => if p1 = 0 then (tg_b1 (fX4_partOf (a_many - rr8) a_many p2) fun rr11 => some rr11) else (if p1 = 1 then (if ¬ rr8 = 0 then (tg_b1 (fX4_partOf a_many rr8 p2) fun rr15 => some rr15) else (some (-9))) else (if p1 = 2 then (tg_b1 (fX1_free c_at) fun rr18 => tg_b1 (fX1_wind c_at) fun rr20 => tg_b1 (fX0_sumOpening a_calm a_windy a_turns a_many rr18 rr20) fun rr22 => tg_b1 (fX4_partOf rr22 a_many p2) fun rr24 => some rr24) else (some (-1))))) else (some (-1))
set_option maxHeartbeats 2000000 in
set_option maxRecDepth 20000 in
theorem vX4_odds (l : Launch) (D : tg_D) (h0 x0 t0 t1 t2 r0 e0 e1 e2 rt z0 b0 b1 b2 b3 b4 c0 c1 c2 m0 i0 i1 i2 j0 j1 j2 k0 k1 k2 : Nat) (x_text : Nat → Int32) (x_typed : Int32) (t_pips : Nat → Int32) (t_many : Nat → Int32) (t_berths : Int32) (t_goal : Int32) (r_fault : Int32) (r_length : Int32) (r_kind : Int32) (r_start : Int32) (r_next : Int32) (r_number : Int32) (r_dice : Int32) (r_bt : Int32) (r_gt : Int32) (d_pips : Nat → Int32) (d_many : Nat → Int32) (d_berths : Int32) (d_goal : Int32) (a_shown : Nat → Int32) (a_calm : Nat → Int32) (a_windy : Nat → Int32) (a_turns : Nat → Int32) (a_many : Int32) (a_ever : Int32) (c_at : Nat → Int32) (c_past : Nat → Int32) (c_known : Int32) (i_at : Nat → Int32) (i_past : Nat → Int32) (i_known : Int32) (j_at : Nat → Int32) (j_past : Nat → Int32) (j_known : Int32) (x_kept : Nat → Int32) (x_cb : Nat → Int32) (x_ct : Nat → Int32) (x_chalked : Int32) (x_traced : Int64) (p1 : Int32) (p2 : Int32) (X : tg_X) (hl0 : tg_l X = l) (C : tg_C X D 4 cX4_odds RX4 3 68 0 0) (r : Int32) (hs : fX4_odds a_calm a_windy a_turns a_many c_at p1 p2 = some r) (hE : tg_Ei X D 0 0 cX4_odds .int r (tw_X D h0 x0 t0 t1 t2 r0 e0 e1 e2 rt z0 b0 b1 b2 b3 b4 c0 c1 c2 m0 i0 i1 i2 j0 j1 j2 k0 k1 k2 x_text x_typed t_pips t_many t_berths t_goal r_fault r_length r_kind r_start r_next r_number r_dice r_bt r_gt d_pips d_many d_berths d_goal a_shown a_calm a_windy a_turns a_many a_ever c_at c_past c_known i_at i_past i_known j_at j_past j_known x_kept x_cb x_ct x_chalked x_traced)) : tg_G X D 4 0 0 (tw_X D h0 x0 t0 t1 t2 r0 e0 e1 e2 rt z0 b0 b1 b2 b3 b4 c0 c1 c2 m0 i0 i1 i2 j0 j1 j2 k0 k1 k2 x_text x_typed t_pips t_many t_berths t_goal r_fault r_length r_kind r_start r_next r_number r_dice r_bt r_gt d_pips d_many d_berths d_goal a_shown a_calm a_windy a_turns a_many a_ever c_at c_past c_known i_at i_past i_known j_at j_past j_known x_kept x_cb x_ct x_chalked x_traced) [(0, .ref h0), (1, .int p1), (2, .int p2)] 0 [] := by
  unfold fX4_odds at hs
  refine tg_iload_n C dX4_odds_0 rfl 2 rfl ?_
  obtain ⟨rr1, ee2, hs⟩ := tg_b1_e hs
  refine tg_pS (As := [.int p2]) (rest := []) C hl0 (kX4_isPart l D p2 rr1 ee2) wm_520 meX4_isPart (by decide) rfl rfl (Nat.le_of_ble_eq_true rfl) dX4_odds_1 ?_
  refine tg_if_ne (tgt := 9) C dX4_odds_4 (by decide) (fun cc3 => ?_) (fun cc3 => ?_)
  · have hs := tg_t cc3 hs
    refine tg_aload_n C dX4_odds_9 rfl 0 rfl ?_
    refine tg_get (v := .ref b0) C cfX4 0 rfl 4 (by decide) wm_243 rfl dX4_odds_10 ?_
    refine tg_aload_n C dX4_odds_13 rfl 0 rfl ?_
    refine tg_get (v := .ref c0) C cfX4 0 rfl 5 (by decide) wm_244 rfl dX4_odds_14 ?_
    obtain ⟨rr4, ee5, hs⟩ := tg_b1_e hs
    refine tg_pV (As := []) (rest := [.ref b0]) C hl0 (kX1_free l D c0 c1 c2 t0 t1 t2 c_at c_past c_known t_pips t_many t_berths t_goal rr4 ee5) wm_399 meX1_free (by decide) [15, 16, 17, 2, 3, 4] rfl (by decide) rfl rfl rfl rfl (Nat.le_of_ble_eq_true rfl) dX4_odds_17 ?_
    refine tg_aload_n C dX4_odds_20 rfl 0 rfl ?_
    refine tg_get (v := .ref c0) C cfX4 0 rfl 5 (by decide) wm_244 rfl dX4_odds_21 ?_
    obtain ⟨rr6, ee7, hs⟩ := tg_b1_e hs
    refine tg_pV (As := []) (rest := [.int rr4, .ref b0]) C hl0 (kX1_wind l D c0 c1 c2 t0 t1 t2 c_at c_past c_known t_pips t_many t_berths t_goal rr6 ee7) wm_513 meX1_wind (by decide) [15, 16, 17, 2, 3, 4] rfl (by decide) rfl rfl rfl rfl (Nat.le_of_ble_eq_true rfl) dX4_odds_24 ?_
    obtain ⟨rr8, ee9, hs⟩ := tg_b1_e hs
    refine tg_pV (As := [.int rr4, .int rr6]) (rest := []) C hl0 (kX0_manyOpening l D b0 b1 b2 b3 b4 a_shown a_calm a_windy a_turns a_many a_ever rr4 rr6 rr8 ee9) wm_527 meX0_manyOpening (by decide) [10, 11, 12, 13, 14] rfl (by decide) rfl rfl rfl rfl (Nat.le_of_ble_eq_true rfl) dX4_odds_27 ?_
    refine tg_istore_n (lv' := [(3, .int rr8), (0, .ref h0), (1, .int p1), (2, .int p2)]) C dX4_odds_30 rfl (by decide) rfl ?_
    refine tg_iload_n C dX4_odds_31 rfl 2 rfl ?_
    by_cases ss10 : p1 = 0
    · have hs := tg_t ss10 hs
      refine tg_swIn (off := 28) (tgt := 60) C 0 ss10 dX4_odds_32 (by decide) (by decide) ?_
      refine tg_aload_n C dX4_odds_60 rfl 1 rfl ?_
      refine tg_get (v := .ref b0) C cfX4 0 rfl 4 (by decide) wm_243 rfl dX4_odds_61 ?_
      refine tg_get (v := .int a_many) C cfX0 10 rfl 4 (by decide) wm_168 rfl dX4_odds_64 ?_
      refine tg_iload_n C dX4_odds_67 rfl 0 rfl ?_
      refine tg_isub C dX4_odds_68 ?_
      refine tg_aload_n C dX4_odds_69 rfl 1 rfl ?_
      refine tg_get (v := .ref b0) C cfX4 0 rfl 4 (by decide) wm_243 rfl dX4_odds_70 ?_
      refine tg_get (v := .int a_many) C cfX0 10 rfl 4 (by decide) wm_168 rfl dX4_odds_73 ?_
      refine tg_iload_n C dX4_odds_76 rfl 3 rfl ?_
      obtain ⟨rr11, ee12, hs⟩ := tg_b1_e hs
      refine tg_pS (As := [.int (a_many - rr8), .int a_many, .int p2]) (rest := []) C hl0 (kX4_partOf l D (a_many - rr8) a_many p2 rr11 ee12) wm_539 meX4_partOf (by decide) rfl rfl (Nat.le_of_ble_eq_true rfl) dX4_odds_77 ?_
      obtain rfl := Option.some.inj hs
      exact tg_iret hE rfl dX4_odds_80
    · have hs := tg_f ss10 hs
      by_cases ss13 : p1 = 1
      · have hs := tg_t ss13 hs
        refine tg_swIn (off := 49) (tgt := 81) C 1 ss13 dX4_odds_32 (by decide) (by decide) ?_
        refine tg_iload_n C dX4_odds_81 rfl 0 rfl ?_
        refine tg_if_ne (tgt := 90) C dX4_odds_82 (by decide) (fun cc14 => ?_) (fun cc14 => ?_)
        · have hs := tg_t cc14 hs
          refine tg_aload_n C dX4_odds_90 rfl 1 rfl ?_
          refine tg_get (v := .ref b0) C cfX4 0 rfl 4 (by decide) wm_243 rfl dX4_odds_91 ?_
          refine tg_get (v := .int a_many) C cfX0 10 rfl 4 (by decide) wm_168 rfl dX4_odds_94 ?_
          refine tg_iload_n C dX4_odds_97 rfl 0 rfl ?_
          refine tg_iload_n C dX4_odds_98 rfl 3 rfl ?_
          obtain ⟨rr15, ee16, hs⟩ := tg_b1_e hs
          refine tg_pS (As := [.int a_many, .int rr8, .int p2]) (rest := []) C hl0 (kX4_partOf l D a_many rr8 p2 rr15 ee16) wm_539 meX4_partOf (by decide) rfl rfl (Nat.le_of_ble_eq_true rfl) dX4_odds_99 ?_
          obtain rfl := Option.some.inj hs
          exact tg_iret hE rfl dX4_odds_102
        · have hs := tg_nf cc14 hs
          refine tg_bipush (v := (-9)) C dX4_odds_85 (by decide) ?_
          refine tg_goto (tgt := 102) C dX4_odds_87 (by decide) ?_
          obtain rfl := Option.some.inj hs
          exact tg_iret hE rfl dX4_odds_102
      · have hs := tg_f ss13 hs
        by_cases ss17 : p1 = 2
        · have hs := tg_t ss17 hs
          refine tg_swIn (off := 71) (tgt := 103) C 2 ss17 dX4_odds_32 (by decide) (by decide) ?_
          refine tg_aload_n C dX4_odds_103 rfl 1 rfl ?_
          refine tg_get (v := .ref b0) C cfX4 0 rfl 4 (by decide) wm_243 rfl dX4_odds_104 ?_
          refine tg_aload_n C dX4_odds_107 rfl 1 rfl ?_
          refine tg_get (v := .ref c0) C cfX4 0 rfl 5 (by decide) wm_244 rfl dX4_odds_108 ?_
          obtain ⟨rr18, ee19, hs⟩ := tg_b1_e hs
          refine tg_pV (As := []) (rest := [.ref b0]) C hl0 (kX1_free l D c0 c1 c2 t0 t1 t2 c_at c_past c_known t_pips t_many t_berths t_goal rr18 ee19) wm_399 meX1_free (by decide) [15, 16, 17, 2, 3, 4] rfl (by decide) rfl rfl rfl rfl (Nat.le_of_ble_eq_true rfl) dX4_odds_111 ?_
          refine tg_aload_n C dX4_odds_114 rfl 1 rfl ?_
          refine tg_get (v := .ref c0) C cfX4 0 rfl 5 (by decide) wm_244 rfl dX4_odds_115 ?_
          obtain ⟨rr20, ee21, hs⟩ := tg_b1_e hs
          refine tg_pV (As := []) (rest := [.int rr18, .ref b0]) C hl0 (kX1_wind l D c0 c1 c2 t0 t1 t2 c_at c_past c_known t_pips t_many t_berths t_goal rr20 ee21) wm_513 meX1_wind (by decide) [15, 16, 17, 2, 3, 4] rfl (by decide) rfl rfl rfl rfl (Nat.le_of_ble_eq_true rfl) dX4_odds_118 ?_
          obtain ⟨rr22, ee23, hs⟩ := tg_b1_e hs
          refine tg_pV (As := [.int rr18, .int rr20]) (rest := []) C hl0 (kX0_sumOpening l D b0 b1 b2 b3 b4 a_shown a_calm a_windy a_turns a_many a_ever rr18 rr20 rr22 ee23) wm_549 meX0_sumOpening (by decide) [10, 11, 12, 13, 14] rfl (by decide) rfl rfl rfl rfl (Nat.le_of_ble_eq_true rfl) dX4_odds_121 ?_
          refine tg_aload_n C dX4_odds_124 rfl 1 rfl ?_
          refine tg_get (v := .ref b0) C cfX4 0 rfl 4 (by decide) wm_243 rfl dX4_odds_125 ?_
          refine tg_get (v := .int a_many) C cfX0 10 rfl 4 (by decide) wm_168 rfl dX4_odds_128 ?_
          refine tg_iload_n C dX4_odds_131 rfl 3 rfl ?_
          obtain ⟨rr24, ee25, hs⟩ := tg_b1_e hs
          refine tg_pS (As := [.int rr22, .int a_many, .int p2]) (rest := []) C hl0 (kX4_partOf l D rr22 a_many p2 rr24 ee25) wm_539 meX4_partOf (by decide) rfl rfl (Nat.le_of_ble_eq_true rfl) dX4_odds_132 ?_
          obtain rfl := Option.some.inj hs
          exact tg_iret hE rfl dX4_odds_135
        · have hs := tg_f ss17 hs
          refine tg_swOut (tgt := 136) C (by have a0 := lv_neT (a := 0) ss10 rfl; have a1 := lv_neT (a := 1) ss13 rfl; have a2 := lv_neT (a := 2) ss17 rfl; omega) dX4_odds_32 (by decide) ?_
          refine tg_iconst (v := (-1)) C dX4_odds_136 (by decide) ?_
          obtain rfl := Option.some.inj hs
          exact tg_iret hE rfl dX4_odds_137
  · have hs := tg_nf cc3 hs
    refine tg_iconst (v := (-1)) C dX4_odds_7 (by decide) ?_
    obtain rfl := Option.some.inj hs
    exact tg_iret hE rfl dX4_odds_8
set_option maxHeartbeats 2000000 in
set_option maxRecDepth 20000 in
theorem kX4_odds (l : Launch) (D : tg_D) (h0 x0 t0 t1 t2 r0 e0 e1 e2 rt z0 b0 b1 b2 b3 b4 c0 c1 c2 m0 i0 i1 i2 j0 j1 j2 k0 k1 k2 : Nat) (x_text : Nat → Int32) (x_typed : Int32) (t_pips : Nat → Int32) (t_many : Nat → Int32) (t_berths : Int32) (t_goal : Int32) (r_fault : Int32) (r_length : Int32) (r_kind : Int32) (r_start : Int32) (r_next : Int32) (r_number : Int32) (r_dice : Int32) (r_bt : Int32) (r_gt : Int32) (d_pips : Nat → Int32) (d_many : Nat → Int32) (d_berths : Int32) (d_goal : Int32) (a_shown : Nat → Int32) (a_calm : Nat → Int32) (a_windy : Nat → Int32) (a_turns : Nat → Int32) (a_many : Int32) (a_ever : Int32) (c_at : Nat → Int32) (c_past : Nat → Int32) (c_known : Int32) (i_at : Nat → Int32) (i_past : Nat → Int32) (i_known : Int32) (j_at : Nat → Int32) (j_past : Nat → Int32) (j_known : Int32) (x_kept : Nat → Int32) (x_cb : Nat → Int32) (x_ct : Nat → Int32) (x_chalked : Int32) (x_traced : Int64) (p1 : Int32) (p2 : Int32) (r : Int32) (hs : fX4_odds a_calm a_windy a_turns a_many c_at p1 p2 = some r) : Met l yX4_odds [Cond.code yX4_odds cX4_odds 4 (some .int)] (tg_rm 3 68) (tg_Pre D (tw_X D h0 x0 t0 t1 t2 r0 e0 e1 e2 rt z0 b0 b1 b2 b3 b4 c0 c1 c2 m0 i0 i1 i2 j0 j1 j2 k0 k1 k2 x_text x_typed t_pips t_many t_berths t_goal r_fault r_length r_kind r_start r_next r_number r_dice r_bt r_gt d_pips d_many d_berths d_goal a_shown a_calm a_windy a_turns a_many a_ever c_at c_past c_known i_at i_past i_known j_at j_past j_known x_kept x_cb x_ct x_chalked x_traced) [.ref h0, .int p1, .int p2]) (vp_Si (fun r' => r' = r)) 0 0 (fun _ => False) := tg_metI (by decide) (Nat.le_of_ble_eq_true rfl) (fun X hl0 C hE => vX4_odds l D h0 x0 t0 t1 t2 r0 e0 e1 e2 rt z0 b0 b1 b2 b3 b4 c0 c1 c2 m0 i0 i1 i2 j0 j1 j2 k0 k1 k2 x_text x_typed t_pips t_many t_berths t_goal r_fault r_length r_kind r_start r_next r_number r_dice r_bt r_gt d_pips d_many d_berths d_goal a_shown a_calm a_windy a_turns a_many a_ever c_at c_past c_known i_at i_past i_known j_at j_past j_known x_kept x_cb x_ct x_chalked x_traced p1 p2 X hl0 C r hs hE)
def fX4_wise_L27 (t_berths : Int32) (a_calm : Nat → Int32) (a_windy : Nat → Int32) (a_turns : Nat → Int32) (a_many : Int32) (c_at : Nat → Int32) (n2 : Int32) : Nat → Int32 → Int32 → Int32 → Option (Int32 × Int32 × Int32)
  | 0, _, _, _ => none
  | fuel + 1, n3, n4, n5 => if t_berths < n5 then (some (n3, n4, n5)) else (tg_b1 (fX4_hasBit n2 n5) fun rr7 => tg_b2 (if rr7 = 0 then (some (n3, n4)) else (tg_b1 (fX1_free c_at) fun rr13 => tg_b1 (fX4_bit n5) fun rr15 => tg_b1 (fX1_wind c_at) fun rr17 => tg_b1 (fX0_manyOpening a_calm a_windy a_turns a_many (rr13 &&& (rr15 ^^^ (-1))) rr17) fun rr19 => if n3 = (-9) then (some (n5, rr19)) else (if n4 ≤ rr19 then (some (n3, n4)) else (some (n5, rr19))))) fun (vv10 : Int32) (vv11 : Int32) => tg_nm (n5 + 1) fun vv23 => fX4_wise_L27 t_berths a_calm a_windy a_turns a_many c_at n2 fuel vv10 vv11 vv23)
def fX4_wise (t_berths : Int32) (a_calm : Nat → Int32) (a_windy : Nat → Int32) (a_turns : Nat → Int32) (a_many : Int32) (c_at : Nat → Int32) (p1 : Int32) : Option (Int32) := tg_b1 (fX4_isPart p1) fun rr1 => if ¬ rr1 = 0 then (tg_b1 (fX1_open c_at t_berths) fun rr4 => tg_b3 (fX4_wise_L27 t_berths a_calm a_windy a_turns a_many c_at rr4 400 (-9) (-9) 1) fun vv25 vv26 vv27 => if ¬ p1 = 0 then (some vv26) else (some vv25)) else (some (-1))
set_option maxHeartbeats 2000000 in
set_option maxRecDepth 20000 in
theorem vX4_wise_L27 (l : Launch) (D : tg_D) (h0 x0 t0 t1 t2 r0 e0 e1 e2 rt z0 b0 b1 b2 b3 b4 c0 c1 c2 m0 i0 i1 i2 j0 j1 j2 k0 k1 k2 : Nat) (x_text : Nat → Int32) (x_typed : Int32) (t_pips : Nat → Int32) (t_many : Nat → Int32) (t_berths : Int32) (t_goal : Int32) (r_fault : Int32) (r_length : Int32) (r_kind : Int32) (r_start : Int32) (r_next : Int32) (r_number : Int32) (r_dice : Int32) (r_bt : Int32) (r_gt : Int32) (d_pips : Nat → Int32) (d_many : Nat → Int32) (d_berths : Int32) (d_goal : Int32) (a_shown : Nat → Int32) (a_calm : Nat → Int32) (a_windy : Nat → Int32) (a_turns : Nat → Int32) (a_many : Int32) (a_ever : Int32) (c_at : Nat → Int32) (c_past : Nat → Int32) (c_known : Int32) (i_at : Nat → Int32) (i_past : Nat → Int32) (i_known : Int32) (j_at : Nat → Int32) (j_past : Nat → Int32) (j_known : Int32) (x_kept : Nat → Int32) (x_cb : Nat → Int32) (x_ct : Nat → Int32) (x_chalked : Int32) (x_traced : Int64) (n1 : Int32) (n2 : Int32) (X : tg_X) (hl0 : tg_l X = l) (C : tg_C X D 7 cX4_wise RX4 4 87 0 0) (o_n3 : Int32) (o_n4 : Int32) (o_n5 : Int32) : ∀ (fuel : Nat) (n3 : Int32) (n4 : Int32) (n5 : Int32), fX4_wise_L27 t_berths a_calm a_windy a_turns a_many c_at n2 fuel n3 n4 n5 = some (o_n3, o_n4, o_n5) → tg_G X D 7 0 0 (tw_X D h0 x0 t0 t1 t2 r0 e0 e1 e2 rt z0 b0 b1 b2 b3 b4 c0 c1 c2 m0 i0 i1 i2 j0 j1 j2 k0 k1 k2 x_text x_typed t_pips t_many t_berths t_goal r_fault r_length r_kind r_start r_next r_number r_dice r_bt r_gt d_pips d_many d_berths d_goal a_shown a_calm a_windy a_turns a_many a_ever c_at c_past c_known i_at i_past i_known j_at j_past j_known x_kept x_cb x_ct x_chalked x_traced) [(0, .ref h0), (1, .int n1), (2, .int n2), (3, .int o_n3), (4, .int o_n4), (5, .int o_n5)] 105 [] → tg_G X D 7 0 0 (tw_X D h0 x0 t0 t1 t2 r0 e0 e1 e2 rt z0 b0 b1 b2 b3 b4 c0 c1 c2 m0 i0 i1 i2 j0 j1 j2 k0 k1 k2 x_text x_typed t_pips t_many t_berths t_goal r_fault r_length r_kind r_start r_next r_number r_dice r_bt r_gt d_pips d_many d_berths d_goal a_shown a_calm a_windy a_turns a_many a_ever c_at c_past c_known i_at i_past i_known j_at j_past j_known x_kept x_cb x_ct x_chalked x_traced) [(0, .ref h0), (1, .int n1), (2, .int n2), (3, .int n3), (4, .int n4), (5, .int n5)] 27 [] := by
  intro fuel
  induction fuel with
  | zero =>
    intro n3 n4 n5 hs _
    rw [fX4_wise_L27] at hs
    cases hs
  | succ fuel ih =>
    intro n3 n4 n5 hs J
    rw [fX4_wise_L27] at hs
    refine tg_iload C dX4_wise_27 5 rfl ?_
    refine tg_aload_n C dX4_wise_29 rfl 0 rfl ?_
    refine tg_get (v := .ref t0) C cfX4 0 rfl 2 (by decide) wm_241 rfl dX4_wise_30 ?_
    refine tg_get (v := .int t_berths) C cfX3 2 rfl 2 (by decide) wm_97 rfl dX4_wise_33 ?_
    refine tg_icmp_gt (tgt := 105) C dX4_wise_36 (by decide) (fun cc6 => ?_) (fun cc6 => ?_)
    · have hs := tg_t cc6 hs
      obtain ⟨rfl, rfl, rfl⟩ := tg_i3 hs
      exact J
    · have hs := tg_f cc6 hs
      refine tg_iload_n C dX4_wise_39 rfl 2 rfl ?_
      refine tg_iload C dX4_wise_40 5 rfl ?_
      obtain ⟨rr7, ee8, hs⟩ := tg_b1_e hs
      refine tg_pS (As := [.int n2, .int n5]) (rest := []) C hl0 (kX4_hasBit l D n2 n5 rr7 ee8) wm_459 meX4_hasBit (by decide) rfl rfl (Nat.le_of_ble_eq_true rfl) dX4_wise_42 ?_
      obtain ⟨vv10, vv11, ee24, hs⟩ := tg_b2_e hs
      have JJ12 : tg_G X D 7 0 0 (tw_X D h0 x0 t0 t1 t2 r0 e0 e1 e2 rt z0 b0 b1 b2 b3 b4 c0 c1 c2 m0 i0 i1 i2 j0 j1 j2 k0 k1 k2 x_text x_typed t_pips t_many t_berths t_goal r_fault r_length r_kind r_start r_next r_number r_dice r_bt r_gt d_pips d_many d_berths d_goal a_shown a_calm a_windy a_turns a_many a_ever c_at c_past c_known i_at i_past i_known j_at j_past j_known x_kept x_cb x_ct x_chalked x_traced) [(0, .ref h0), (1, .int n1), (2, .int n2), (3, .int vv10), (4, .int vv11), (5, .int n5)] 99 [] := by
        obtain ⟨vv23, evv23, hs⟩ := tg_nm_e hs
        refine tg_iinc (v := vv23) (lv' := [(5, .int vv23), (0, .ref h0), (1, .int n1), (2, .int n2), (3, .int vv10), (4, .int vv11)]) C dX4_wise_99 5 rfl (by rw [evv23]; rfl) (by decide) rfl ?_
        refine tg_goto (tgt := 27) C dX4_wise_102 (by decide) ?_
        refine tg_lsub [1, 2, 3, 4, 5, 0] rfl ?_
        exact ih vv10 vv11 vv23 hs J
      have hs := ee24
      clear ee24
      refine tg_if_eq (tgt := 99) C dX4_wise_45 (by decide) (fun cc9 => ?_) (fun cc9 => ?_)
      · have hs := tg_t cc9 hs
        obtain ⟨rfl, rfl⟩ := tg_i2 hs
        exact JJ12
      · have hs := tg_f cc9 hs
        refine tg_aload_n C dX4_wise_48 rfl 0 rfl ?_
        refine tg_get (v := .ref b0) C cfX4 0 rfl 4 (by decide) wm_243 rfl dX4_wise_49 ?_
        refine tg_aload_n C dX4_wise_52 rfl 0 rfl ?_
        refine tg_get (v := .ref c0) C cfX4 0 rfl 5 (by decide) wm_244 rfl dX4_wise_53 ?_
        obtain ⟨rr13, ee14, hs⟩ := tg_b1_e hs
        refine tg_pV (As := []) (rest := [.ref b0]) C hl0 (kX1_free l D c0 c1 c2 t0 t1 t2 c_at c_past c_known t_pips t_many t_berths t_goal rr13 ee14) wm_399 meX1_free (by decide) [15, 16, 17, 2, 3, 4] rfl (by decide) rfl rfl rfl rfl (Nat.le_of_ble_eq_true rfl) dX4_wise_56 ?_
        refine tg_iload C dX4_wise_59 5 rfl ?_
        obtain ⟨rr15, ee16, hs⟩ := tg_b1_e hs
        refine tg_pS (As := [.int n5]) (rest := [.int rr13, .ref b0]) C hl0 (kX4_bit l D n5 rr15 ee16) wm_375 meX4_bit (by decide) rfl rfl (Nat.le_of_ble_eq_true rfl) dX4_wise_61 ?_
        refine tg_iconst (v := (-1)) C dX4_wise_64 (by decide) ?_
        refine tg_ixor C dX4_wise_65 ?_
        refine tg_iand C dX4_wise_66 ?_
        refine tg_aload_n C dX4_wise_67 rfl 0 rfl ?_
        refine tg_get (v := .ref c0) C cfX4 0 rfl 5 (by decide) wm_244 rfl dX4_wise_68 ?_
        obtain ⟨rr17, ee18, hs⟩ := tg_b1_e hs
        refine tg_pV (As := []) (rest := [.int (rr13 &&& (rr15 ^^^ (-1))), .ref b0]) C hl0 (kX1_wind l D c0 c1 c2 t0 t1 t2 c_at c_past c_known t_pips t_many t_berths t_goal rr17 ee18) wm_513 meX1_wind (by decide) [15, 16, 17, 2, 3, 4] rfl (by decide) rfl rfl rfl rfl (Nat.le_of_ble_eq_true rfl) dX4_wise_71 ?_
        obtain ⟨rr19, ee20, hs⟩ := tg_b1_e hs
        refine tg_pV (As := [.int (rr13 &&& (rr15 ^^^ (-1))), .int rr17]) (rest := []) C hl0 (kX0_manyOpening l D b0 b1 b2 b3 b4 a_shown a_calm a_windy a_turns a_many a_ever (rr13 &&& (rr15 ^^^ (-1))) rr17 rr19 ee20) wm_527 meX0_manyOpening (by decide) [10, 11, 12, 13, 14] rfl (by decide) rfl rfl rfl rfl (Nat.le_of_ble_eq_true rfl) dX4_wise_74 ?_
        refine tg_istore (lv' := [(6, .int rr19), (0, .ref h0), (1, .int n1), (2, .int n2), (3, .int n3), (4, .int n4), (5, .int n5)]) C dX4_wise_77 (by decide) rfl ?_
        refine tg_iload_n C dX4_wise_79 rfl 4 rfl ?_
        refine tg_bipush (v := (-9)) C dX4_wise_80 (by decide) ?_
        refine tg_icmp_eq (tgt := 92) C dX4_wise_82 (by decide) (fun cc21 => ?_) (fun cc21 => ?_)
        · have hs := tg_t cc21 hs
          refine tg_iload C dX4_wise_92 6 rfl ?_
          refine tg_istore_n (lv' := [(3, .int n5), (6, .int rr19), (0, .ref h0), (1, .int n1), (2, .int n2), (4, .int n4), (5, .int n5)]) C dX4_wise_94 rfl (by decide) rfl ?_
          refine tg_iload C dX4_wise_95 1 rfl ?_
          refine tg_istore (lv' := [(4, .int rr19), (3, .int n5), (6, .int rr19), (0, .ref h0), (1, .int n1), (2, .int n2), (5, .int n5)]) C dX4_wise_97 (by decide) rfl ?_
          obtain ⟨rfl, rfl⟩ := tg_i2 hs
          refine tg_lsub [3, 4, 5, 1, 0, 6] rfl ?_
          exact JJ12
        · have hs := tg_f cc21 hs
          refine tg_iload C dX4_wise_85 0 rfl ?_
          refine tg_iload C dX4_wise_87 5 rfl ?_
          refine tg_icmp_ge (tgt := 99) C dX4_wise_89 (by decide) (fun cc22 => ?_) (fun cc22 => ?_)
          · have hs := tg_t cc22 hs
            obtain ⟨rfl, rfl⟩ := tg_i2 hs
            refine tg_lsub [1, 2, 3, 4, 5, 6] rfl ?_
            exact JJ12
          · have hs := tg_f cc22 hs
            refine tg_iload C dX4_wise_92 6 rfl ?_
            refine tg_istore_n (lv' := [(3, .int n5), (6, .int rr19), (0, .ref h0), (1, .int n1), (2, .int n2), (4, .int n4), (5, .int n5)]) C dX4_wise_94 rfl (by decide) rfl ?_
            refine tg_iload C dX4_wise_95 1 rfl ?_
            refine tg_istore (lv' := [(4, .int rr19), (3, .int n5), (6, .int rr19), (0, .ref h0), (1, .int n1), (2, .int n2), (5, .int n5)]) C dX4_wise_97 (by decide) rfl ?_
            obtain ⟨rfl, rfl⟩ := tg_i2 hs
            refine tg_lsub [3, 4, 5, 1, 0, 6] rfl ?_
            exact JJ12
set_option maxHeartbeats 2000000 in
set_option maxRecDepth 20000 in
theorem vX4_wise (l : Launch) (D : tg_D) (h0 x0 t0 t1 t2 r0 e0 e1 e2 rt z0 b0 b1 b2 b3 b4 c0 c1 c2 m0 i0 i1 i2 j0 j1 j2 k0 k1 k2 : Nat) (x_text : Nat → Int32) (x_typed : Int32) (t_pips : Nat → Int32) (t_many : Nat → Int32) (t_berths : Int32) (t_goal : Int32) (r_fault : Int32) (r_length : Int32) (r_kind : Int32) (r_start : Int32) (r_next : Int32) (r_number : Int32) (r_dice : Int32) (r_bt : Int32) (r_gt : Int32) (d_pips : Nat → Int32) (d_many : Nat → Int32) (d_berths : Int32) (d_goal : Int32) (a_shown : Nat → Int32) (a_calm : Nat → Int32) (a_windy : Nat → Int32) (a_turns : Nat → Int32) (a_many : Int32) (a_ever : Int32) (c_at : Nat → Int32) (c_past : Nat → Int32) (c_known : Int32) (i_at : Nat → Int32) (i_past : Nat → Int32) (i_known : Int32) (j_at : Nat → Int32) (j_past : Nat → Int32) (j_known : Int32) (x_kept : Nat → Int32) (x_cb : Nat → Int32) (x_ct : Nat → Int32) (x_chalked : Int32) (x_traced : Int64) (p1 : Int32) (X : tg_X) (hl0 : tg_l X = l) (C : tg_C X D 7 cX4_wise RX4 4 87 0 0) (r : Int32) (hs : fX4_wise t_berths a_calm a_windy a_turns a_many c_at p1 = some r) (hE : tg_Ei X D 0 0 cX4_wise .int r (tw_X D h0 x0 t0 t1 t2 r0 e0 e1 e2 rt z0 b0 b1 b2 b3 b4 c0 c1 c2 m0 i0 i1 i2 j0 j1 j2 k0 k1 k2 x_text x_typed t_pips t_many t_berths t_goal r_fault r_length r_kind r_start r_next r_number r_dice r_bt r_gt d_pips d_many d_berths d_goal a_shown a_calm a_windy a_turns a_many a_ever c_at c_past c_known i_at i_past i_known j_at j_past j_known x_kept x_cb x_ct x_chalked x_traced)) : tg_G X D 7 0 0 (tw_X D h0 x0 t0 t1 t2 r0 e0 e1 e2 rt z0 b0 b1 b2 b3 b4 c0 c1 c2 m0 i0 i1 i2 j0 j1 j2 k0 k1 k2 x_text x_typed t_pips t_many t_berths t_goal r_fault r_length r_kind r_start r_next r_number r_dice r_bt r_gt d_pips d_many d_berths d_goal a_shown a_calm a_windy a_turns a_many a_ever c_at c_past c_known i_at i_past i_known j_at j_past j_known x_kept x_cb x_ct x_chalked x_traced) [(0, .ref h0), (1, .int p1)] 0 [] := by
  unfold fX4_wise at hs
  refine tg_iload_n C dX4_wise_0 rfl 1 rfl ?_
  obtain ⟨rr1, ee2, hs⟩ := tg_b1_e hs
  refine tg_pS (As := [.int p1]) (rest := []) C hl0 (kX4_isPart l D p1 rr1 ee2) wm_520 meX4_isPart (by decide) rfl rfl (Nat.le_of_ble_eq_true rfl) dX4_wise_1 ?_
  refine tg_if_ne (tgt := 9) C dX4_wise_4 (by decide) (fun cc3 => ?_) (fun cc3 => ?_)
  · have hs := tg_t cc3 hs
    refine tg_aload_n C dX4_wise_9 rfl 0 rfl ?_
    refine tg_get (v := .ref c0) C cfX4 0 rfl 5 (by decide) wm_244 rfl dX4_wise_10 ?_
    obtain ⟨rr4, ee5, hs⟩ := tg_b1_e hs
    refine tg_pV (As := []) (rest := []) C hl0 (kX1_open l D c0 c1 c2 t0 t1 t2 c_at c_past c_known t_pips t_many t_berths t_goal rr4 ee5) wm_440 meX1_open (by decide) [15, 16, 17, 2, 3, 4] rfl (by decide) rfl rfl rfl rfl (Nat.le_of_ble_eq_true rfl) dX4_wise_13 ?_
    refine tg_istore_n (lv' := [(2, .int rr4), (0, .ref h0), (1, .int p1)]) C dX4_wise_16 rfl (by decide) rfl ?_
    refine tg_bipush (v := (-9)) C dX4_wise_17 (by decide) ?_
    refine tg_istore_n (lv' := [(3, .int (-9)), (2, .int rr4), (0, .ref h0), (1, .int p1)]) C dX4_wise_19 rfl (by decide) rfl ?_
    refine tg_bipush (v := (-9)) C dX4_wise_20 (by decide) ?_
    refine tg_istore (lv' := [(4, .int (-9)), (3, .int (-9)), (2, .int rr4), (0, .ref h0), (1, .int p1)]) C dX4_wise_22 (by decide) rfl ?_
    refine tg_iconst (v := 1) C dX4_wise_24 (by decide) ?_
    refine tg_istore (lv' := [(5, .int 1), (4, .int (-9)), (3, .int (-9)), (2, .int rr4), (0, .ref h0), (1, .int p1)]) C dX4_wise_25 (by decide) rfl ?_
    refine tg_lsub [4, 5, 3, 2, 1, 0] rfl ?_
    obtain ⟨vv25, vv26, vv27, ee28, hs⟩ := tg_b3_e hs
    refine vX4_wise_L27 l D h0 x0 t0 t1 t2 r0 e0 e1 e2 rt z0 b0 b1 b2 b3 b4 c0 c1 c2 m0 i0 i1 i2 j0 j1 j2 k0 k1 k2 x_text x_typed t_pips t_many t_berths t_goal r_fault r_length r_kind r_start r_next r_number r_dice r_bt r_gt d_pips d_many d_berths d_goal a_shown a_calm a_windy a_turns a_many a_ever c_at c_past c_known i_at i_past i_known j_at j_past j_known x_kept x_cb x_ct x_chalked x_traced p1 rr4 X hl0 C vv25 vv26 vv27 400 (-9) (-9) 1 ee28 ?_
    refine tg_iload_n C dX4_wise_105 rfl 1 rfl ?_
    refine tg_if_ne (tgt := 113) C dX4_wise_106 (by decide) (fun cc29 => ?_) (fun cc29 => ?_)
    · have hs := tg_t cc29 hs
      refine tg_iload C dX4_wise_113 4 rfl ?_
      obtain rfl := Option.some.inj hs
      exact tg_iret hE rfl dX4_wise_115
    · have hs := tg_nf cc29 hs
      refine tg_iload_n C dX4_wise_109 rfl 3 rfl ?_
      refine tg_goto (tgt := 115) C dX4_wise_110 (by decide) ?_
      obtain rfl := Option.some.inj hs
      exact tg_iret hE rfl dX4_wise_115
  · have hs := tg_nf cc3 hs
    refine tg_iconst (v := (-1)) C dX4_wise_7 (by decide) ?_
    obtain rfl := Option.some.inj hs
    exact tg_iret hE rfl dX4_wise_8
set_option maxHeartbeats 2000000 in
set_option maxRecDepth 20000 in
theorem kX4_wise (l : Launch) (D : tg_D) (h0 x0 t0 t1 t2 r0 e0 e1 e2 rt z0 b0 b1 b2 b3 b4 c0 c1 c2 m0 i0 i1 i2 j0 j1 j2 k0 k1 k2 : Nat) (x_text : Nat → Int32) (x_typed : Int32) (t_pips : Nat → Int32) (t_many : Nat → Int32) (t_berths : Int32) (t_goal : Int32) (r_fault : Int32) (r_length : Int32) (r_kind : Int32) (r_start : Int32) (r_next : Int32) (r_number : Int32) (r_dice : Int32) (r_bt : Int32) (r_gt : Int32) (d_pips : Nat → Int32) (d_many : Nat → Int32) (d_berths : Int32) (d_goal : Int32) (a_shown : Nat → Int32) (a_calm : Nat → Int32) (a_windy : Nat → Int32) (a_turns : Nat → Int32) (a_many : Int32) (a_ever : Int32) (c_at : Nat → Int32) (c_past : Nat → Int32) (c_known : Int32) (i_at : Nat → Int32) (i_past : Nat → Int32) (i_known : Int32) (j_at : Nat → Int32) (j_past : Nat → Int32) (j_known : Int32) (x_kept : Nat → Int32) (x_cb : Nat → Int32) (x_ct : Nat → Int32) (x_chalked : Int32) (x_traced : Int64) (p1 : Int32) (r : Int32) (hs : fX4_wise t_berths a_calm a_windy a_turns a_many c_at p1 = some r) : Met l yX4_wise [Cond.code yX4_wise cX4_wise 7 (some .int)] (tg_rm 4 87) (tg_Pre D (tw_X D h0 x0 t0 t1 t2 r0 e0 e1 e2 rt z0 b0 b1 b2 b3 b4 c0 c1 c2 m0 i0 i1 i2 j0 j1 j2 k0 k1 k2 x_text x_typed t_pips t_many t_berths t_goal r_fault r_length r_kind r_start r_next r_number r_dice r_bt r_gt d_pips d_many d_berths d_goal a_shown a_calm a_windy a_turns a_many a_ever c_at c_past c_known i_at i_past i_known j_at j_past j_known x_kept x_cb x_ct x_chalked x_traced) [.ref h0, .int p1]) (vp_Si (fun r' => r' = r)) 0 0 (fun _ => False) := tg_metI (by decide) (Nat.le_of_ble_eq_true rfl) (fun X hl0 C hE => vX4_wise l D h0 x0 t0 t1 t2 r0 e0 e1 e2 rt z0 b0 b1 b2 b3 b4 c0 c1 c2 m0 i0 i1 i2 j0 j1 j2 k0 k1 k2 x_text x_typed t_pips t_many t_berths t_goal r_fault r_length r_kind r_start r_next r_number r_dice r_bt r_gt d_pips d_many d_berths d_goal a_shown a_calm a_windy a_turns a_many a_ever c_at c_past c_known i_at i_past i_known j_at j_past j_known x_kept x_cb x_ct x_chalked x_traced p1 X hl0 C r hs hE)
