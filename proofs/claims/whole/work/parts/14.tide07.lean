def fX4_count (x_typed : Int32) (t_berths : Int32) (t_goal : Int32) (a_many : Int32) (c_known : Int32) (x_chalked : Int32) (p1 : Int32) : Option (Int32) := if p1 = 0 then (some t_berths) else (if p1 = 1 then (some t_goal) else (if p1 = 2 then (some a_many) else (if p1 = 3 then (some x_chalked) else (if p1 = 4 then (some c_known) else (if p1 = 5 then (some x_typed) else (some (-1)))))))
set_option maxHeartbeats 2000000 in
set_option maxRecDepth 20000 in
theorem vX4_count (l : Launch) (D : tg_D) (h0 x0 t0 t1 t2 r0 e0 e1 e2 rt z0 b0 b1 b2 b3 b4 c0 c1 c2 m0 i0 i1 i2 j0 j1 j2 k0 k1 k2 : Nat) (x_text : Nat → Int32) (x_typed : Int32) (t_pips : Nat → Int32) (t_many : Nat → Int32) (t_berths : Int32) (t_goal : Int32) (r_fault : Int32) (r_length : Int32) (r_kind : Int32) (r_start : Int32) (r_next : Int32) (r_number : Int32) (r_dice : Int32) (r_bt : Int32) (r_gt : Int32) (d_pips : Nat → Int32) (d_many : Nat → Int32) (d_berths : Int32) (d_goal : Int32) (a_shown : Nat → Int32) (a_calm : Nat → Int32) (a_windy : Nat → Int32) (a_turns : Nat → Int32) (a_many : Int32) (a_ever : Int32) (c_at : Nat → Int32) (c_past : Nat → Int32) (c_known : Int32) (i_at : Nat → Int32) (i_past : Nat → Int32) (i_known : Int32) (j_at : Nat → Int32) (j_past : Nat → Int32) (j_known : Int32) (x_kept : Nat → Int32) (x_cb : Nat → Int32) (x_ct : Nat → Int32) (x_chalked : Int32) (x_traced : Int64) (p1 : Int32) (X : tg_X) (hl0 : tg_l X = l) (C : tg_C X D 2 cX4_count RX4 0 0 0 0) (r : Int32) (hs : fX4_count x_typed t_berths t_goal a_many c_known x_chalked p1 = some r) (hE : tg_Ei X D 0 0 cX4_count .int r (tw_X D h0 x0 t0 t1 t2 r0 e0 e1 e2 rt z0 b0 b1 b2 b3 b4 c0 c1 c2 m0 i0 i1 i2 j0 j1 j2 k0 k1 k2 x_text x_typed t_pips t_many t_berths t_goal r_fault r_length r_kind r_start r_next r_number r_dice r_bt r_gt d_pips d_many d_berths d_goal a_shown a_calm a_windy a_turns a_many a_ever c_at c_past c_known i_at i_past i_known j_at j_past j_known x_kept x_cb x_ct x_chalked x_traced)) : tg_G X D 2 0 0 (tw_X D h0 x0 t0 t1 t2 r0 e0 e1 e2 rt z0 b0 b1 b2 b3 b4 c0 c1 c2 m0 i0 i1 i2 j0 j1 j2 k0 k1 k2 x_text x_typed t_pips t_many t_berths t_goal r_fault r_length r_kind r_start r_next r_number r_dice r_bt r_gt d_pips d_many d_berths d_goal a_shown a_calm a_windy a_turns a_many a_ever c_at c_past c_known i_at i_past i_known j_at j_past j_known x_kept x_cb x_ct x_chalked x_traced) [(0, .ref h0), (1, .int p1)] 0 [] := by
  unfold fX4_count at hs
  refine tg_iload_n C dX4_count_0 rfl 1 rfl ?_
  by_cases ss1 : p1 = 0
  · have hs := tg_t ss1 hs
    refine tg_swIn (off := 39) (tgt := 40) C 0 ss1 dX4_count_1 (by decide) (by decide) ?_
    refine tg_aload_n C dX4_count_40 rfl 0 rfl ?_
    refine tg_get (v := .ref t0) C cfX4 0 rfl 2 (by decide) wm_241 rfl dX4_count_41 ?_
    refine tg_get (v := .int t_berths) C cfX3 2 rfl 2 (by decide) wm_97 rfl dX4_count_44 ?_
    obtain rfl := Option.some.inj hs
    exact tg_iret hE rfl dX4_count_47
  · have hs := tg_f ss1 hs
    by_cases ss2 : p1 = 1
    · have hs := tg_t ss2 hs
      refine tg_swIn (off := 47) (tgt := 48) C 1 ss2 dX4_count_1 (by decide) (by decide) ?_
      refine tg_aload_n C dX4_count_48 rfl 0 rfl ?_
      refine tg_get (v := .ref t0) C cfX4 0 rfl 2 (by decide) wm_241 rfl dX4_count_49 ?_
      refine tg_get (v := .int t_goal) C cfX3 2 rfl 3 (by decide) wm_101 rfl dX4_count_52 ?_
      obtain rfl := Option.some.inj hs
      exact tg_iret hE rfl dX4_count_55
    · have hs := tg_f ss2 hs
      by_cases ss3 : p1 = 2
      · have hs := tg_t ss3 hs
        refine tg_swIn (off := 55) (tgt := 56) C 2 ss3 dX4_count_1 (by decide) (by decide) ?_
        refine tg_aload_n C dX4_count_56 rfl 0 rfl ?_
        refine tg_get (v := .ref b0) C cfX4 0 rfl 4 (by decide) wm_243 rfl dX4_count_57 ?_
        refine tg_get (v := .int a_many) C cfX0 10 rfl 4 (by decide) wm_168 rfl dX4_count_60 ?_
        obtain rfl := Option.some.inj hs
        exact tg_iret hE rfl dX4_count_63
      · have hs := tg_f ss3 hs
        by_cases ss4 : p1 = 3
        · have hs := tg_t ss4 hs
          refine tg_swIn (off := 63) (tgt := 64) C 3 ss4 dX4_count_1 (by decide) (by decide) ?_
          refine tg_aload_n C dX4_count_64 rfl 0 rfl ?_
          refine tg_get (v := .int x_chalked) C cfX4 0 rfl 10 (by decide) wm_249 rfl dX4_count_65 ?_
          obtain rfl := Option.some.inj hs
          exact tg_iret hE rfl dX4_count_68
        · have hs := tg_f ss4 hs
          by_cases ss5 : p1 = 4
          · have hs := tg_t ss5 hs
            refine tg_swIn (off := 68) (tgt := 69) C 4 ss5 dX4_count_1 (by decide) (by decide) ?_
            refine tg_aload_n C dX4_count_69 rfl 0 rfl ?_
            refine tg_get (v := .ref c0) C cfX4 0 rfl 5 (by decide) wm_244 rfl dX4_count_70 ?_
            refine tg_get (v := .int c_known) C cfX1 15 rfl 3 (by decide) wm_199 rfl dX4_count_73 ?_
            obtain rfl := Option.some.inj hs
            exact tg_iret hE rfl dX4_count_76
          · have hs := tg_f ss5 hs
            by_cases ss6 : p1 = 5
            · have hs := tg_t ss6 hs
              refine tg_swIn (off := 76) (tgt := 77) C 5 ss6 dX4_count_1 (by decide) (by decide) ?_
              refine tg_aload_n C dX4_count_77 rfl 0 rfl ?_
              refine tg_get (v := .int x_typed) C cfX4 0 rfl 1 (by decide) wm_240 rfl dX4_count_78 ?_
              obtain rfl := Option.some.inj hs
              exact tg_iret hE rfl dX4_count_81
            · have hs := tg_f ss6 hs
              refine tg_swOut (tgt := 82) C (by have a0 := lv_neT (a := 0) ss1 rfl; have a1 := lv_neT (a := 1) ss2 rfl; have a2 := lv_neT (a := 2) ss3 rfl; have a3 := lv_neT (a := 3) ss4 rfl; have a4 := lv_neT (a := 4) ss5 rfl; have a5 := lv_neT (a := 5) ss6 rfl; omega) dX4_count_1 (by decide) ?_
              refine tg_iconst (v := (-1)) C dX4_count_82 (by decide) ?_
              obtain rfl := Option.some.inj hs
              exact tg_iret hE rfl dX4_count_83
set_option maxHeartbeats 2000000 in
set_option maxRecDepth 20000 in
theorem kX4_count (l : Launch) (D : tg_D) (h0 x0 t0 t1 t2 r0 e0 e1 e2 rt z0 b0 b1 b2 b3 b4 c0 c1 c2 m0 i0 i1 i2 j0 j1 j2 k0 k1 k2 : Nat) (x_text : Nat → Int32) (x_typed : Int32) (t_pips : Nat → Int32) (t_many : Nat → Int32) (t_berths : Int32) (t_goal : Int32) (r_fault : Int32) (r_length : Int32) (r_kind : Int32) (r_start : Int32) (r_next : Int32) (r_number : Int32) (r_dice : Int32) (r_bt : Int32) (r_gt : Int32) (d_pips : Nat → Int32) (d_many : Nat → Int32) (d_berths : Int32) (d_goal : Int32) (a_shown : Nat → Int32) (a_calm : Nat → Int32) (a_windy : Nat → Int32) (a_turns : Nat → Int32) (a_many : Int32) (a_ever : Int32) (c_at : Nat → Int32) (c_past : Nat → Int32) (c_known : Int32) (i_at : Nat → Int32) (i_past : Nat → Int32) (i_known : Int32) (j_at : Nat → Int32) (j_past : Nat → Int32) (j_known : Int32) (x_kept : Nat → Int32) (x_cb : Nat → Int32) (x_ct : Nat → Int32) (x_chalked : Int32) (x_traced : Int64) (p1 : Int32) (r : Int32) (hs : fX4_count x_typed t_berths t_goal a_many c_known x_chalked p1 = some r) : Met l yX4_count [Cond.code yX4_count cX4_count 2 (some .int)] (tg_rm 0 0) (tg_Pre D (tw_X D h0 x0 t0 t1 t2 r0 e0 e1 e2 rt z0 b0 b1 b2 b3 b4 c0 c1 c2 m0 i0 i1 i2 j0 j1 j2 k0 k1 k2 x_text x_typed t_pips t_many t_berths t_goal r_fault r_length r_kind r_start r_next r_number r_dice r_bt r_gt d_pips d_many d_berths d_goal a_shown a_calm a_windy a_turns a_many a_ever c_at c_past c_known i_at i_past i_known j_at j_past j_known x_kept x_cb x_ct x_chalked x_traced) [.ref h0, .int p1]) (vp_Si (fun r' => r' = r)) 0 0 (fun _ => False) := tg_metI (by decide) (Nat.le_of_ble_eq_true rfl) (fun X hl0 C hE => vX4_count l D h0 x0 t0 t1 t2 r0 e0 e1 e2 rt z0 b0 b1 b2 b3 b4 c0 c1 c2 m0 i0 i1 i2 j0 j1 j2 k0 k1 k2 x_text x_typed t_pips t_many t_berths t_goal r_fault r_length r_kind r_start r_next r_number r_dice r_bt r_gt d_pips d_many d_berths d_goal a_shown a_calm a_windy a_turns a_many a_ever c_at c_past c_known i_at i_past i_known j_at j_past j_known x_kept x_cb x_ct x_chalked x_traced p1 X hl0 C r hs hE)
def fX4_trace (x_traced : Int64) : Option (Int64) := some x_traced
set_option maxHeartbeats 2000000 in
set_option maxRecDepth 20000 in
theorem vX4_trace (l : Launch) (D : tg_D) (h0 x0 t0 t1 t2 r0 e0 e1 e2 rt z0 b0 b1 b2 b3 b4 c0 c1 c2 m0 i0 i1 i2 j0 j1 j2 k0 k1 k2 : Nat) (x_text : Nat → Int32) (x_typed : Int32) (t_pips : Nat → Int32) (t_many : Nat → Int32) (t_berths : Int32) (t_goal : Int32) (r_fault : Int32) (r_length : Int32) (r_kind : Int32) (r_start : Int32) (r_next : Int32) (r_number : Int32) (r_dice : Int32) (r_bt : Int32) (r_gt : Int32) (d_pips : Nat → Int32) (d_many : Nat → Int32) (d_berths : Int32) (d_goal : Int32) (a_shown : Nat → Int32) (a_calm : Nat → Int32) (a_windy : Nat → Int32) (a_turns : Nat → Int32) (a_many : Int32) (a_ever : Int32) (c_at : Nat → Int32) (c_past : Nat → Int32) (c_known : Int32) (i_at : Nat → Int32) (i_past : Nat → Int32) (i_known : Int32) (j_at : Nat → Int32) (j_past : Nat → Int32) (j_known : Int32) (x_kept : Nat → Int32) (x_cb : Nat → Int32) (x_ct : Nat → Int32) (x_chalked : Int32) (x_traced : Int64) (X : tg_X) (hl0 : tg_l X = l) (C : tg_C X D 1 cX4_trace RX4 0 0 0 0) (r : Int64) (hs : fX4_trace x_traced = some r) (hE : tg_El X D 0 0 cX4_trace r (tw_X D h0 x0 t0 t1 t2 r0 e0 e1 e2 rt z0 b0 b1 b2 b3 b4 c0 c1 c2 m0 i0 i1 i2 j0 j1 j2 k0 k1 k2 x_text x_typed t_pips t_many t_berths t_goal r_fault r_length r_kind r_start r_next r_number r_dice r_bt r_gt d_pips d_many d_berths d_goal a_shown a_calm a_windy a_turns a_many a_ever c_at c_past c_known i_at i_past i_known j_at j_past j_known x_kept x_cb x_ct x_chalked x_traced)) : tg_G X D 1 0 0 (tw_X D h0 x0 t0 t1 t2 r0 e0 e1 e2 rt z0 b0 b1 b2 b3 b4 c0 c1 c2 m0 i0 i1 i2 j0 j1 j2 k0 k1 k2 x_text x_typed t_pips t_many t_berths t_goal r_fault r_length r_kind r_start r_next r_number r_dice r_bt r_gt d_pips d_many d_berths d_goal a_shown a_calm a_windy a_turns a_many a_ever c_at c_past c_known i_at i_past i_known j_at j_past j_known x_kept x_cb x_ct x_chalked x_traced) [(0, .ref h0)] 0 [] := by
  unfold fX4_trace at hs
  refine tg_aload_n C dX4_trace_0 rfl 0 rfl ?_
  refine tg_get (v := .long x_traced) C cfX4 0 rfl 11 (by decide) wm_250 rfl dX4_trace_1 ?_
  obtain rfl := Option.some.inj hs
  exact tg_lret hE dX4_trace_4
set_option maxHeartbeats 2000000 in
set_option maxRecDepth 20000 in
theorem kX4_trace (l : Launch) (D : tg_D) (h0 x0 t0 t1 t2 r0 e0 e1 e2 rt z0 b0 b1 b2 b3 b4 c0 c1 c2 m0 i0 i1 i2 j0 j1 j2 k0 k1 k2 : Nat) (x_text : Nat → Int32) (x_typed : Int32) (t_pips : Nat → Int32) (t_many : Nat → Int32) (t_berths : Int32) (t_goal : Int32) (r_fault : Int32) (r_length : Int32) (r_kind : Int32) (r_start : Int32) (r_next : Int32) (r_number : Int32) (r_dice : Int32) (r_bt : Int32) (r_gt : Int32) (d_pips : Nat → Int32) (d_many : Nat → Int32) (d_berths : Int32) (d_goal : Int32) (a_shown : Nat → Int32) (a_calm : Nat → Int32) (a_windy : Nat → Int32) (a_turns : Nat → Int32) (a_many : Int32) (a_ever : Int32) (c_at : Nat → Int32) (c_past : Nat → Int32) (c_known : Int32) (i_at : Nat → Int32) (i_past : Nat → Int32) (i_known : Int32) (j_at : Nat → Int32) (j_past : Nat → Int32) (j_known : Int32) (x_kept : Nat → Int32) (x_cb : Nat → Int32) (x_ct : Nat → Int32) (x_chalked : Int32) (x_traced : Int64) (r : Int64) (hs : fX4_trace x_traced = some r) : Met l yX4_trace [Cond.code yX4_trace cX4_trace 1 (some .long)] (tg_rm 0 0) (tg_Pre D (tw_X D h0 x0 t0 t1 t2 r0 e0 e1 e2 rt z0 b0 b1 b2 b3 b4 c0 c1 c2 m0 i0 i1 i2 j0 j1 j2 k0 k1 k2 x_text x_typed t_pips t_many t_berths t_goal r_fault r_length r_kind r_start r_next r_number r_dice r_bt r_gt d_pips d_many d_berths d_goal a_shown a_calm a_windy a_turns a_many a_ever c_at c_past c_known i_at i_past i_known j_at j_past j_known x_kept x_cb x_ct x_chalked x_traced) [.ref h0]) (vp_Sl (fun r' => r' = r)) 0 0 (fun _ => False) := tg_metL (by decide) (Nat.le_of_ble_eq_true rfl) (fun X hl0 C hE => vX4_trace l D h0 x0 t0 t1 t2 r0 e0 e1 e2 rt z0 b0 b1 b2 b3 b4 c0 c1 c2 m0 i0 i1 i2 j0 j1 j2 k0 k1 k2 x_text x_typed t_pips t_many t_berths t_goal r_fault r_length r_kind r_start r_next r_number r_dice r_bt r_gt d_pips d_many d_berths d_goal a_shown a_calm a_windy a_turns a_many a_ever c_at c_past c_known i_at i_past i_known j_at j_past j_known x_kept x_cb x_ct x_chalked x_traced X hl0 C r hs hE)
