def fX4_cheap_L13 (t_berths : Int32) (c_at : Nat → Int32) (n1 : Int32) : Nat → Int32 → Int32 → Option (Int32 × Int32)
  | 0, _, _ => none
  | fuel + 1, n2, n3 => if t_berths < n3 then (some (n2, n3)) else (tg_b1 (fX4_hasBit n1 n3) fun rr4 => tg_b1 (if rr4 = 0 then (some n2) else (if n2 = (-9) then (some n3) else (tg_b1 (fX1_tidesFor c_at n3) fun rr10 => tg_b1 (fX1_tidesFor c_at n2) fun rr12 => if rr12 ≤ rr10 then (some n2) else (some n3)))) fun (vv7 : Int32) => tg_nm (n3 + 1) fun vv15 => fX4_cheap_L13 t_berths c_at n1 fuel vv7 vv15)
def fX4_cheap (t_berths : Int32) (c_at : Nat → Int32) : Option (Int32) := tg_b1 (fX1_open c_at t_berths) fun rr1 => tg_b2 (fX4_cheap_L13 t_berths c_at rr1 400 (-9) 1) fun vv17 vv18 => some vv17
set_option maxHeartbeats 2000000 in
set_option maxRecDepth 20000 in
theorem vX4_cheap_L13 (l : Launch) (D : tg_D) (h0 x0 t0 t1 t2 r0 e0 e1 e2 rt z0 b0 b1 b2 b3 b4 c0 c1 c2 m0 i0 i1 i2 j0 j1 j2 k0 k1 k2 : Nat) (x_text : Nat → Int32) (x_typed : Int32) (t_pips : Nat → Int32) (t_many : Nat → Int32) (t_berths : Int32) (t_goal : Int32) (r_fault : Int32) (r_length : Int32) (r_kind : Int32) (r_start : Int32) (r_next : Int32) (r_number : Int32) (r_dice : Int32) (r_bt : Int32) (r_gt : Int32) (d_pips : Nat → Int32) (d_many : Nat → Int32) (d_berths : Int32) (d_goal : Int32) (a_shown : Nat → Int32) (a_calm : Nat → Int32) (a_windy : Nat → Int32) (a_turns : Nat → Int32) (a_many : Int32) (a_ever : Int32) (c_at : Nat → Int32) (c_past : Nat → Int32) (c_known : Int32) (i_at : Nat → Int32) (i_past : Nat → Int32) (i_known : Int32) (j_at : Nat → Int32) (j_past : Nat → Int32) (j_known : Int32) (x_kept : Nat → Int32) (x_cb : Nat → Int32) (x_ct : Nat → Int32) (x_chalked : Int32) (x_traced : Int64) (n1 : Int32) (X : tg_X) (hl0 : tg_l X = l) (C : tg_C X D 4 cX4_cheap RX4 4 87 0 0) (o_n2 : Int32) (o_n3 : Int32) : ∀ (fuel : Nat) (n2 : Int32) (n3 : Int32), fX4_cheap_L13 t_berths c_at n1 fuel n2 n3 = some (o_n2, o_n3) → tg_G X D 4 0 0 (tw_X D h0 x0 t0 t1 t2 r0 e0 e1 e2 rt z0 b0 b1 b2 b3 b4 c0 c1 c2 m0 i0 i1 i2 j0 j1 j2 k0 k1 k2 x_text x_typed t_pips t_many t_berths t_goal r_fault r_length r_kind r_start r_next r_number r_dice r_bt r_gt d_pips d_many d_berths d_goal a_shown a_calm a_windy a_turns a_many a_ever c_at c_past c_known i_at i_past i_known j_at j_past j_known x_kept x_cb x_ct x_chalked x_traced) [(0, .ref h0), (1, .int n1), (2, .int o_n2), (3, .int o_n3)] 65 [] → tg_G X D 4 0 0 (tw_X D h0 x0 t0 t1 t2 r0 e0 e1 e2 rt z0 b0 b1 b2 b3 b4 c0 c1 c2 m0 i0 i1 i2 j0 j1 j2 k0 k1 k2 x_text x_typed t_pips t_many t_berths t_goal r_fault r_length r_kind r_start r_next r_number r_dice r_bt r_gt d_pips d_many d_berths d_goal a_shown a_calm a_windy a_turns a_many a_ever c_at c_past c_known i_at i_past i_known j_at j_past j_known x_kept x_cb x_ct x_chalked x_traced) [(0, .ref h0), (1, .int n1), (2, .int n2), (3, .int n3)] 13 [] := by
  intro fuel
  induction fuel with
  | zero =>
    intro n2 n3 hs _
    rw [fX4_cheap_L13] at hs
    cases hs
  | succ fuel ih =>
    intro n2 n3 hs J
    rw [fX4_cheap_L13] at hs
    refine tg_iload_n C dX4_cheap_13 rfl 3 rfl ?_
    refine tg_aload_n C dX4_cheap_14 rfl 0 rfl ?_
    refine tg_get (v := .ref t0) C cfX4 0 rfl 2 (by decide) wm_241 rfl dX4_cheap_15 ?_
    refine tg_get (v := .int t_berths) C cfX3 2 rfl 2 (by decide) wm_97 rfl dX4_cheap_18 ?_
    refine tg_icmp_gt (tgt := 65) C dX4_cheap_21 (by decide) (fun cc3 => ?_) (fun cc3 => ?_)
    · have hs := tg_t cc3 hs
      obtain ⟨rfl, rfl⟩ := tg_i2 hs
      exact J
    · have hs := tg_f cc3 hs
      refine tg_iload_n C dX4_cheap_24 rfl 1 rfl ?_
      refine tg_iload_n C dX4_cheap_25 rfl 3 rfl ?_
      obtain ⟨rr4, ee5, hs⟩ := tg_b1_e hs
      refine tg_pS (As := [.int n1, .int n3]) (rest := []) C hl0 (kX4_hasBit l D n1 n3 rr4 ee5) wm_459 meX4_hasBit (by decide) rfl rfl (Nat.le_of_ble_eq_true rfl) dX4_cheap_26 ?_
      obtain ⟨vv7, ee16, hs⟩ := tg_b1_e hs
      have JJ8 : tg_G X D 4 0 0 (tw_X D h0 x0 t0 t1 t2 r0 e0 e1 e2 rt z0 b0 b1 b2 b3 b4 c0 c1 c2 m0 i0 i1 i2 j0 j1 j2 k0 k1 k2 x_text x_typed t_pips t_many t_berths t_goal r_fault r_length r_kind r_start r_next r_number r_dice r_bt r_gt d_pips d_many d_berths d_goal a_shown a_calm a_windy a_turns a_many a_ever c_at c_past c_known i_at i_past i_known j_at j_past j_known x_kept x_cb x_ct x_chalked x_traced) [(0, .ref h0), (1, .int n1), (2, .int vv7), (3, .int n3)] 59 [] := by
        obtain ⟨vv15, evv15, hs⟩ := tg_nm_e hs
        refine tg_iinc (v := vv15) (lv' := [(3, .int vv15), (0, .ref h0), (1, .int n1), (2, .int vv7)]) C dX4_cheap_59 3 rfl (by rw [evv15]; rfl) (by decide) rfl ?_
        refine tg_goto (tgt := 13) C dX4_cheap_62 (by decide) ?_
        refine tg_lsub [1, 2, 3, 0] rfl ?_
        exact ih vv7 vv15 hs J
      have hs := ee16
      clear ee16
      refine tg_if_eq (tgt := 59) C dX4_cheap_29 (by decide) (fun cc6 => ?_) (fun cc6 => ?_)
      · have hs := tg_t cc6 hs
        obtain rfl := Option.some.inj hs
        exact JJ8
      · have hs := tg_f cc6 hs
        refine tg_iload_n C dX4_cheap_32 rfl 2 rfl ?_
        refine tg_bipush (v := (-9)) C dX4_cheap_33 (by decide) ?_
        refine tg_icmp_eq (tgt := 57) C dX4_cheap_35 (by decide) (fun cc9 => ?_) (fun cc9 => ?_)
        · have hs := tg_t cc9 hs
          refine tg_iload_n C dX4_cheap_57 rfl 3 rfl ?_
          refine tg_istore_n (lv' := [(2, .int n3), (0, .ref h0), (1, .int n1), (3, .int n3)]) C dX4_cheap_58 rfl (by decide) rfl ?_
          obtain rfl := Option.some.inj hs
          refine tg_lsub [1, 2, 0, 3] rfl ?_
          exact JJ8
        · have hs := tg_f cc9 hs
          refine tg_aload_n C dX4_cheap_38 rfl 0 rfl ?_
          refine tg_get (v := .ref c0) C cfX4 0 rfl 5 (by decide) wm_244 rfl dX4_cheap_39 ?_
          refine tg_iload_n C dX4_cheap_42 rfl 3 rfl ?_
          obtain ⟨rr10, ee11, hs⟩ := tg_b1_e hs
          refine tg_pV (As := [.int n3]) (rest := []) C hl0 (kX1_tidesFor l D c0 c1 c2 t0 t1 t2 c_at c_past c_known t_pips t_many t_berths t_goal n3 rr10 ee11) wm_562 meX1_tidesFor (by decide) [15, 16, 17, 2, 3, 4] rfl (by decide) rfl rfl rfl rfl (Nat.le_of_ble_eq_true rfl) dX4_cheap_43 ?_
          refine tg_aload_n C dX4_cheap_46 rfl 0 rfl ?_
          refine tg_get (v := .ref c0) C cfX4 0 rfl 5 (by decide) wm_244 rfl dX4_cheap_47 ?_
          refine tg_iload_n C dX4_cheap_50 rfl 2 rfl ?_
          obtain ⟨rr12, ee13, hs⟩ := tg_b1_e hs
          refine tg_pV (As := [.int n2]) (rest := [.int rr10]) C hl0 (kX1_tidesFor l D c0 c1 c2 t0 t1 t2 c_at c_past c_known t_pips t_many t_berths t_goal n2 rr12 ee13) wm_562 meX1_tidesFor (by decide) [15, 16, 17, 2, 3, 4] rfl (by decide) rfl rfl rfl rfl (Nat.le_of_ble_eq_true rfl) dX4_cheap_51 ?_
          refine tg_icmp_ge (tgt := 59) C dX4_cheap_54 (by decide) (fun cc14 => ?_) (fun cc14 => ?_)
          · have hs := tg_t cc14 hs
            obtain rfl := Option.some.inj hs
            exact JJ8
          · have hs := tg_f cc14 hs
            refine tg_iload_n C dX4_cheap_57 rfl 3 rfl ?_
            refine tg_istore_n (lv' := [(2, .int n3), (0, .ref h0), (1, .int n1), (3, .int n3)]) C dX4_cheap_58 rfl (by decide) rfl ?_
            obtain rfl := Option.some.inj hs
            refine tg_lsub [1, 2, 0, 3] rfl ?_
            exact JJ8
set_option maxHeartbeats 2000000 in
set_option maxRecDepth 20000 in
theorem vX4_cheap (l : Launch) (D : tg_D) (h0 x0 t0 t1 t2 r0 e0 e1 e2 rt z0 b0 b1 b2 b3 b4 c0 c1 c2 m0 i0 i1 i2 j0 j1 j2 k0 k1 k2 : Nat) (x_text : Nat → Int32) (x_typed : Int32) (t_pips : Nat → Int32) (t_many : Nat → Int32) (t_berths : Int32) (t_goal : Int32) (r_fault : Int32) (r_length : Int32) (r_kind : Int32) (r_start : Int32) (r_next : Int32) (r_number : Int32) (r_dice : Int32) (r_bt : Int32) (r_gt : Int32) (d_pips : Nat → Int32) (d_many : Nat → Int32) (d_berths : Int32) (d_goal : Int32) (a_shown : Nat → Int32) (a_calm : Nat → Int32) (a_windy : Nat → Int32) (a_turns : Nat → Int32) (a_many : Int32) (a_ever : Int32) (c_at : Nat → Int32) (c_past : Nat → Int32) (c_known : Int32) (i_at : Nat → Int32) (i_past : Nat → Int32) (i_known : Int32) (j_at : Nat → Int32) (j_past : Nat → Int32) (j_known : Int32) (x_kept : Nat → Int32) (x_cb : Nat → Int32) (x_ct : Nat → Int32) (x_chalked : Int32) (x_traced : Int64) (X : tg_X) (hl0 : tg_l X = l) (C : tg_C X D 4 cX4_cheap RX4 4 87 0 0) (r : Int32) (hs : fX4_cheap t_berths c_at = some r) (hE : tg_Ei X D 0 0 cX4_cheap .int r (tw_X D h0 x0 t0 t1 t2 r0 e0 e1 e2 rt z0 b0 b1 b2 b3 b4 c0 c1 c2 m0 i0 i1 i2 j0 j1 j2 k0 k1 k2 x_text x_typed t_pips t_many t_berths t_goal r_fault r_length r_kind r_start r_next r_number r_dice r_bt r_gt d_pips d_many d_berths d_goal a_shown a_calm a_windy a_turns a_many a_ever c_at c_past c_known i_at i_past i_known j_at j_past j_known x_kept x_cb x_ct x_chalked x_traced)) : tg_G X D 4 0 0 (tw_X D h0 x0 t0 t1 t2 r0 e0 e1 e2 rt z0 b0 b1 b2 b3 b4 c0 c1 c2 m0 i0 i1 i2 j0 j1 j2 k0 k1 k2 x_text x_typed t_pips t_many t_berths t_goal r_fault r_length r_kind r_start r_next r_number r_dice r_bt r_gt d_pips d_many d_berths d_goal a_shown a_calm a_windy a_turns a_many a_ever c_at c_past c_known i_at i_past i_known j_at j_past j_known x_kept x_cb x_ct x_chalked x_traced) [(0, .ref h0)] 0 [] := by
  unfold fX4_cheap at hs
  refine tg_aload_n C dX4_cheap_0 rfl 0 rfl ?_
  refine tg_get (v := .ref c0) C cfX4 0 rfl 5 (by decide) wm_244 rfl dX4_cheap_1 ?_
  obtain ⟨rr1, ee2, hs⟩ := tg_b1_e hs
  refine tg_pV (As := []) (rest := []) C hl0 (kX1_open l D c0 c1 c2 t0 t1 t2 c_at c_past c_known t_pips t_many t_berths t_goal rr1 ee2) wm_440 meX1_open (by decide) [15, 16, 17, 2, 3, 4] rfl (by decide) rfl rfl rfl rfl (Nat.le_of_ble_eq_true rfl) dX4_cheap_4 ?_
  refine tg_istore_n (lv' := [(1, .int rr1), (0, .ref h0)]) C dX4_cheap_7 rfl (by decide) rfl ?_
  refine tg_bipush (v := (-9)) C dX4_cheap_8 (by decide) ?_
  refine tg_istore_n (lv' := [(2, .int (-9)), (1, .int rr1), (0, .ref h0)]) C dX4_cheap_10 rfl (by decide) rfl ?_
  refine tg_iconst (v := 1) C dX4_cheap_11 (by decide) ?_
  refine tg_istore_n (lv' := [(3, .int 1), (2, .int (-9)), (1, .int rr1), (0, .ref h0)]) C dX4_cheap_12 rfl (by decide) rfl ?_
  refine tg_lsub [3, 2, 1, 0] rfl ?_
  obtain ⟨vv17, vv18, ee19, hs⟩ := tg_b2_e hs
  refine vX4_cheap_L13 l D h0 x0 t0 t1 t2 r0 e0 e1 e2 rt z0 b0 b1 b2 b3 b4 c0 c1 c2 m0 i0 i1 i2 j0 j1 j2 k0 k1 k2 x_text x_typed t_pips t_many t_berths t_goal r_fault r_length r_kind r_start r_next r_number r_dice r_bt r_gt d_pips d_many d_berths d_goal a_shown a_calm a_windy a_turns a_many a_ever c_at c_past c_known i_at i_past i_known j_at j_past j_known x_kept x_cb x_ct x_chalked x_traced rr1 X hl0 C vv17 vv18 400 (-9) 1 ee19 ?_
  refine tg_iload_n C dX4_cheap_65 rfl 2 rfl ?_
  obtain rfl := Option.some.inj hs
  exact tg_iret hE rfl dX4_cheap_66
set_option maxHeartbeats 2000000 in
set_option maxRecDepth 20000 in
theorem kX4_cheap (l : Launch) (D : tg_D) (h0 x0 t0 t1 t2 r0 e0 e1 e2 rt z0 b0 b1 b2 b3 b4 c0 c1 c2 m0 i0 i1 i2 j0 j1 j2 k0 k1 k2 : Nat) (x_text : Nat → Int32) (x_typed : Int32) (t_pips : Nat → Int32) (t_many : Nat → Int32) (t_berths : Int32) (t_goal : Int32) (r_fault : Int32) (r_length : Int32) (r_kind : Int32) (r_start : Int32) (r_next : Int32) (r_number : Int32) (r_dice : Int32) (r_bt : Int32) (r_gt : Int32) (d_pips : Nat → Int32) (d_many : Nat → Int32) (d_berths : Int32) (d_goal : Int32) (a_shown : Nat → Int32) (a_calm : Nat → Int32) (a_windy : Nat → Int32) (a_turns : Nat → Int32) (a_many : Int32) (a_ever : Int32) (c_at : Nat → Int32) (c_past : Nat → Int32) (c_known : Int32) (i_at : Nat → Int32) (i_past : Nat → Int32) (i_known : Int32) (j_at : Nat → Int32) (j_past : Nat → Int32) (j_known : Int32) (x_kept : Nat → Int32) (x_cb : Nat → Int32) (x_ct : Nat → Int32) (x_chalked : Int32) (x_traced : Int64) (r : Int32) (hs : fX4_cheap t_berths c_at = some r) : Met l yX4_cheap [Cond.code yX4_cheap cX4_cheap 4 (some .int)] (tg_rm 4 87) (tg_Pre D (tw_X D h0 x0 t0 t1 t2 r0 e0 e1 e2 rt z0 b0 b1 b2 b3 b4 c0 c1 c2 m0 i0 i1 i2 j0 j1 j2 k0 k1 k2 x_text x_typed t_pips t_many t_berths t_goal r_fault r_length r_kind r_start r_next r_number r_dice r_bt r_gt d_pips d_many d_berths d_goal a_shown a_calm a_windy a_turns a_many a_ever c_at c_past c_known i_at i_past i_known j_at j_past j_known x_kept x_cb x_ct x_chalked x_traced) [.ref h0]) (vp_Si (fun r' => r' = r)) 0 0 (fun _ => False) := tg_metI (by decide) (Nat.le_of_ble_eq_true rfl) (fun X hl0 C hE => vX4_cheap l D h0 x0 t0 t1 t2 r0 e0 e1 e2 rt z0 b0 b1 b2 b3 b4 c0 c1 c2 m0 i0 i1 i2 j0 j1 j2 k0 k1 k2 x_text x_typed t_pips t_many t_berths t_goal r_fault r_length r_kind r_start r_next r_number r_dice r_bt r_gt d_pips d_many d_berths d_goal a_shown a_calm a_windy a_turns a_many a_ever c_at c_past c_known i_at i_past i_known j_at j_past j_known x_kept x_cb x_ct x_chalked x_traced X hl0 C r hs hE)
def fX4_ever (a_ever : Int32) : Option (Int32) := some a_ever
set_option maxHeartbeats 2000000 in
set_option maxRecDepth 20000 in
theorem vX4_ever (l : Launch) (D : tg_D) (h0 x0 t0 t1 t2 r0 e0 e1 e2 rt z0 b0 b1 b2 b3 b4 c0 c1 c2 m0 i0 i1 i2 j0 j1 j2 k0 k1 k2 : Nat) (x_text : Nat → Int32) (x_typed : Int32) (t_pips : Nat → Int32) (t_many : Nat → Int32) (t_berths : Int32) (t_goal : Int32) (r_fault : Int32) (r_length : Int32) (r_kind : Int32) (r_start : Int32) (r_next : Int32) (r_number : Int32) (r_dice : Int32) (r_bt : Int32) (r_gt : Int32) (d_pips : Nat → Int32) (d_many : Nat → Int32) (d_berths : Int32) (d_goal : Int32) (a_shown : Nat → Int32) (a_calm : Nat → Int32) (a_windy : Nat → Int32) (a_turns : Nat → Int32) (a_many : Int32) (a_ever : Int32) (c_at : Nat → Int32) (c_past : Nat → Int32) (c_known : Int32) (i_at : Nat → Int32) (i_past : Nat → Int32) (i_known : Int32) (j_at : Nat → Int32) (j_past : Nat → Int32) (j_known : Int32) (x_kept : Nat → Int32) (x_cb : Nat → Int32) (x_ct : Nat → Int32) (x_chalked : Int32) (x_traced : Int64) (X : tg_X) (hl0 : tg_l X = l) (C : tg_C X D 1 cX4_ever RX4 0 0 0 0) (r : Int32) (hs : fX4_ever a_ever = some r) (hE : tg_Ei X D 0 0 cX4_ever .int r (tw_X D h0 x0 t0 t1 t2 r0 e0 e1 e2 rt z0 b0 b1 b2 b3 b4 c0 c1 c2 m0 i0 i1 i2 j0 j1 j2 k0 k1 k2 x_text x_typed t_pips t_many t_berths t_goal r_fault r_length r_kind r_start r_next r_number r_dice r_bt r_gt d_pips d_many d_berths d_goal a_shown a_calm a_windy a_turns a_many a_ever c_at c_past c_known i_at i_past i_known j_at j_past j_known x_kept x_cb x_ct x_chalked x_traced)) : tg_G X D 1 0 0 (tw_X D h0 x0 t0 t1 t2 r0 e0 e1 e2 rt z0 b0 b1 b2 b3 b4 c0 c1 c2 m0 i0 i1 i2 j0 j1 j2 k0 k1 k2 x_text x_typed t_pips t_many t_berths t_goal r_fault r_length r_kind r_start r_next r_number r_dice r_bt r_gt d_pips d_many d_berths d_goal a_shown a_calm a_windy a_turns a_many a_ever c_at c_past c_known i_at i_past i_known j_at j_past j_known x_kept x_cb x_ct x_chalked x_traced) [(0, .ref h0)] 0 [] := by
  unfold fX4_ever at hs
  refine tg_aload_n C dX4_ever_0 rfl 0 rfl ?_
  refine tg_get (v := .ref b0) C cfX4 0 rfl 4 (by decide) wm_243 rfl dX4_ever_1 ?_
  refine tg_get (v := .int a_ever) C cfX0 10 rfl 5 (by decide) wm_170 rfl dX4_ever_4 ?_
  obtain rfl := Option.some.inj hs
  exact tg_iret hE rfl dX4_ever_7
set_option maxHeartbeats 2000000 in
set_option maxRecDepth 20000 in
theorem kX4_ever (l : Launch) (D : tg_D) (h0 x0 t0 t1 t2 r0 e0 e1 e2 rt z0 b0 b1 b2 b3 b4 c0 c1 c2 m0 i0 i1 i2 j0 j1 j2 k0 k1 k2 : Nat) (x_text : Nat → Int32) (x_typed : Int32) (t_pips : Nat → Int32) (t_many : Nat → Int32) (t_berths : Int32) (t_goal : Int32) (r_fault : Int32) (r_length : Int32) (r_kind : Int32) (r_start : Int32) (r_next : Int32) (r_number : Int32) (r_dice : Int32) (r_bt : Int32) (r_gt : Int32) (d_pips : Nat → Int32) (d_many : Nat → Int32) (d_berths : Int32) (d_goal : Int32) (a_shown : Nat → Int32) (a_calm : Nat → Int32) (a_windy : Nat → Int32) (a_turns : Nat → Int32) (a_many : Int32) (a_ever : Int32) (c_at : Nat → Int32) (c_past : Nat → Int32) (c_known : Int32) (i_at : Nat → Int32) (i_past : Nat → Int32) (i_known : Int32) (j_at : Nat → Int32) (j_past : Nat → Int32) (j_known : Int32) (x_kept : Nat → Int32) (x_cb : Nat → Int32) (x_ct : Nat → Int32) (x_chalked : Int32) (x_traced : Int64) (r : Int32) (hs : fX4_ever a_ever = some r) : Met l yX4_ever [Cond.code yX4_ever cX4_ever 1 (some .int)] (tg_rm 0 0) (tg_Pre D (tw_X D h0 x0 t0 t1 t2 r0 e0 e1 e2 rt z0 b0 b1 b2 b3 b4 c0 c1 c2 m0 i0 i1 i2 j0 j1 j2 k0 k1 k2 x_text x_typed t_pips t_many t_berths t_goal r_fault r_length r_kind r_start r_next r_number r_dice r_bt r_gt d_pips d_many d_berths d_goal a_shown a_calm a_windy a_turns a_many a_ever c_at c_past c_known i_at i_past i_known j_at j_past j_known x_kept x_cb x_ct x_chalked x_traced) [.ref h0]) (vp_Si (fun r' => r' = r)) 0 0 (fun _ => False) := tg_metI (by decide) (Nat.le_of_ble_eq_true rfl) (fun X hl0 C hE => vX4_ever l D h0 x0 t0 t1 t2 r0 e0 e1 e2 rt z0 b0 b1 b2 b3 b4 c0 c1 c2 m0 i0 i1 i2 j0 j1 j2 k0 k1 k2 x_text x_typed t_pips t_many t_berths t_goal r_fault r_length r_kind r_start r_next r_number r_dice r_bt r_gt d_pips d_many d_berths d_goal a_shown a_calm a_windy a_turns a_many a_ever c_at c_past c_known i_at i_past i_known j_at j_past j_known x_kept x_cb x_ct x_chalked x_traced X hl0 C r hs hE)
def fX4_chalks (t_berths : Int32) (x_cb : Nat → Int32) (x_ct : Nat → Int32) (x_chalked : Int32) (p1 : Int32) (p2 : Int32) : Option (Int32 × (Nat → Int32) × (Nat → Int32) × Int32) := tg_b1 (fX4_isBerth t_berths p1) fun rr1 => if rr1 = 0 then (some ((-1), x_cb, x_ct, x_chalked)) else (if p2 < 0 then (some ((-1), x_cb, x_ct, x_chalked)) else (if p2 ≤ 216 then (if x_chalked < 6 then (tg_ck x_chalked 6 <| tg_nm (upd x_cb (Int32.toNatClampNeg x_chalked) p1) fun gg7 => tg_ck x_chalked 6 <| tg_nm (upd x_ct (Int32.toNatClampNeg x_chalked) p2) fun gg9 => tg_nm (x_chalked + 1) fun vv11 => some (vv11, gg7, gg9, vv11)) else (some ((-3), x_cb, x_ct, x_chalked))) else (some ((-1), x_cb, x_ct, x_chalked))))
set_option maxHeartbeats 2000000 in
set_option maxRecDepth 20000 in
theorem vX4_chalks (l : Launch) (D : tg_D) (h0 x0 t0 t1 t2 r0 e0 e1 e2 rt z0 b0 b1 b2 b3 b4 c0 c1 c2 m0 i0 i1 i2 j0 j1 j2 k0 k1 k2 : Nat) (x_text : Nat → Int32) (x_typed : Int32) (t_pips : Nat → Int32) (t_many : Nat → Int32) (t_berths : Int32) (t_goal : Int32) (r_fault : Int32) (r_length : Int32) (r_kind : Int32) (r_start : Int32) (r_next : Int32) (r_number : Int32) (r_dice : Int32) (r_bt : Int32) (r_gt : Int32) (d_pips : Nat → Int32) (d_many : Nat → Int32) (d_berths : Int32) (d_goal : Int32) (a_shown : Nat → Int32) (a_calm : Nat → Int32) (a_windy : Nat → Int32) (a_turns : Nat → Int32) (a_many : Int32) (a_ever : Int32) (c_at : Nat → Int32) (c_past : Nat → Int32) (c_known : Int32) (i_at : Nat → Int32) (i_past : Nat → Int32) (i_known : Int32) (j_at : Nat → Int32) (j_past : Nat → Int32) (j_known : Int32) (x_kept : Nat → Int32) (x_cb : Nat → Int32) (x_ct : Nat → Int32) (x_chalked : Int32) (x_traced : Int64) (p1 : Int32) (p2 : Int32) (X : tg_X) (hl0 : tg_l X = l) (C : tg_C X D 3 cX4_chalks RX4 1 21 0 0) (V : tg_V X) (r : Int32) (q_x_cb : Nat → Int32) (q_x_ct : Nat → Int32) (q_x_chalked : Int32) (hs : fX4_chalks t_berths x_cb x_ct x_chalked p1 p2 = some (r, q_x_cb, q_x_ct, q_x_chalked)) (hE : tg_Ei X D 0 0 cX4_chalks .int r (tw_X D h0 x0 t0 t1 t2 r0 e0 e1 e2 rt z0 b0 b1 b2 b3 b4 c0 c1 c2 m0 i0 i1 i2 j0 j1 j2 k0 k1 k2 x_text x_typed t_pips t_many t_berths t_goal r_fault r_length r_kind r_start r_next r_number r_dice r_bt r_gt d_pips d_many d_berths d_goal a_shown a_calm a_windy a_turns a_many a_ever c_at c_past c_known i_at i_past i_known j_at j_past j_known x_kept q_x_cb q_x_ct q_x_chalked x_traced)) : tg_G X D 3 0 0 (tw_X D h0 x0 t0 t1 t2 r0 e0 e1 e2 rt z0 b0 b1 b2 b3 b4 c0 c1 c2 m0 i0 i1 i2 j0 j1 j2 k0 k1 k2 x_text x_typed t_pips t_many t_berths t_goal r_fault r_length r_kind r_start r_next r_number r_dice r_bt r_gt d_pips d_many d_berths d_goal a_shown a_calm a_windy a_turns a_many a_ever c_at c_past c_known i_at i_past i_known j_at j_past j_known x_kept x_cb x_ct x_chalked x_traced) [(0, .ref h0), (1, .int p1), (2, .int p2)] 0 [] := by
  unfold fX4_chalks at hs
  refine tg_aload_n C dX4_chalks_0 rfl 0 rfl ?_
  refine tg_iload_n C dX4_chalks_1 rfl 1 rfl ?_
  obtain ⟨rr1, ee2, hs⟩ := tg_b1_e hs
  refine tg_pVs (As := [.int p1]) (rest := []) C hl0 (kX4_isBerth l D h0 x0 t0 t1 t2 r0 e0 e1 e2 rt z0 b0 b1 b2 b3 b4 c0 c1 c2 m0 i0 i1 i2 j0 j1 j2 k0 k1 k2 x_text x_typed t_pips t_many t_berths t_goal r_fault r_length r_kind r_start r_next r_number r_dice r_bt r_gt d_pips d_many d_berths d_goal a_shown a_calm a_windy a_turns a_many a_ever c_at c_past c_known i_at i_past i_known j_at j_past j_known x_kept x_cb x_ct x_chalked x_traced p1 rr1 ee2) wm_360 meX4_isBerth (by decide) rfl rfl rfl rfl (Nat.le_of_ble_eq_true rfl) dX4_chalks_2 ?_
  refine tg_if_eq (tgt := 19) C dX4_chalks_5 (by decide) (fun cc3 => ?_) (fun cc3 => ?_)
  · have hs := tg_t cc3 hs
    refine tg_iconst (v := (-1)) C dX4_chalks_19 (by decide) ?_
    obtain ⟨rfl, rfl, rfl, rfl⟩ := tg_i4 hs
    exact tg_iret hE rfl dX4_chalks_20
  · have hs := tg_f cc3 hs
    refine tg_iload_n C dX4_chalks_8 rfl 2 rfl ?_
    refine tg_if_lt (tgt := 19) C dX4_chalks_9 (by decide) (fun cc4 => ?_) (fun cc4 => ?_)
    · have hs := tg_t cc4 hs
      refine tg_iconst (v := (-1)) C dX4_chalks_19 (by decide) ?_
      obtain ⟨rfl, rfl, rfl, rfl⟩ := tg_i4 hs
      exact tg_iret hE rfl dX4_chalks_20
    · have hs := tg_f cc4 hs
      refine tg_iload_n C dX4_chalks_12 rfl 2 rfl ?_
      refine tg_sipush (v := 216) C dX4_chalks_13 (by decide) ?_
      refine tg_icmp_le (tgt := 21) C dX4_chalks_16 (by decide) (fun cc5 => ?_) (fun cc5 => ?_)
      · have hs := tg_t cc5 hs
        refine tg_aload_n C dX4_chalks_21 rfl 0 rfl ?_
        refine tg_get (v := .int x_chalked) C cfX4 0 rfl 10 (by decide) wm_249 rfl dX4_chalks_22 ?_
        refine tg_bipush (v := 6) C dX4_chalks_25 (by decide) ?_
        refine tg_icmp_lt (tgt := 33) C dX4_chalks_27 (by decide) (fun cc6 => ?_) (fun cc6 => ?_)
        · have hs := tg_t cc6 hs
          refine tg_aload_n C dX4_chalks_33 rfl 0 rfl ?_
          refine tg_get (v := .ref k1) C cfX4 0 rfl 8 (by decide) wm_247 rfl dX4_chalks_34 ?_
          refine tg_aload_n C dX4_chalks_37 rfl 0 rfl ?_
          refine tg_get (v := .int x_chalked) C cfX4 0 rfl 10 (by decide) wm_249 rfl dX4_chalks_38 ?_
          refine tg_iload_n C dX4_chalks_41 rfl 1 rfl ?_
          obtain ⟨hh8, hs⟩ := tg_ck_e hs
          obtain ⟨gg7, egg7, hs⟩ := tg_nm_e hs
          refine tg_iast (ws' := (tw_X D h0 x0 t0 t1 t2 r0 e0 e1 e2 rt z0 b0 b1 b2 b3 b4 c0 c1 c2 m0 i0 i1 i2 j0 j1 j2 k0 k1 k2 x_text x_typed t_pips t_many t_berths t_goal r_fault r_length r_kind r_start r_next r_number r_dice r_bt r_gt d_pips d_many d_berths d_goal a_shown a_calm a_windy a_turns a_many a_ever c_at c_past c_known i_at i_past i_known j_at j_past j_known x_kept gg7 x_ct x_chalked x_traced)) C V 26 0 rfl rfl hh8 egg7 rfl dX4_chalks_42 ?_
          refine tg_aload_n C dX4_chalks_43 rfl 0 rfl ?_
          refine tg_get (v := .ref k2) C cfX4 0 rfl 9 (by decide) wm_248 rfl dX4_chalks_44 ?_
          refine tg_aload_n C dX4_chalks_47 rfl 0 rfl ?_
          refine tg_get (v := .int x_chalked) C cfX4 0 rfl 10 (by decide) wm_249 rfl dX4_chalks_48 ?_
          refine tg_iload_n C dX4_chalks_51 rfl 2 rfl ?_
          obtain ⟨hh10, hs⟩ := tg_ck_e hs
          obtain ⟨gg9, egg9, hs⟩ := tg_nm_e hs
          refine tg_iast (ws' := (tw_X D h0 x0 t0 t1 t2 r0 e0 e1 e2 rt z0 b0 b1 b2 b3 b4 c0 c1 c2 m0 i0 i1 i2 j0 j1 j2 k0 k1 k2 x_text x_typed t_pips t_many t_berths t_goal r_fault r_length r_kind r_start r_next r_number r_dice r_bt r_gt d_pips d_many d_berths d_goal a_shown a_calm a_windy a_turns a_many a_ever c_at c_past c_known i_at i_past i_known j_at j_past j_known x_kept gg7 gg9 x_chalked x_traced)) C V 27 0 rfl rfl hh10 egg9 rfl dX4_chalks_52 ?_
          refine tg_aload_n C dX4_chalks_53 rfl 0 rfl ?_
          refine tg_dup C dX4_chalks_54 rfl ?_
          refine tg_get (v := .int x_chalked) C cfX4 0 rfl 10 (by decide) wm_249 rfl dX4_chalks_55 ?_
          refine tg_iconst (v := 1) C dX4_chalks_58 (by decide) ?_
          refine tg_iadd C dX4_chalks_59 ?_
          obtain ⟨vv11, evv11, hs⟩ := tg_nm_e hs
          refine tg_topi evv11 ?_
          refine tg_put (ws' := (tw_X D h0 x0 t0 t1 t2 r0 e0 e1 e2 rt z0 b0 b1 b2 b3 b4 c0 c1 c2 m0 i0 i1 i2 j0 j1 j2 k0 k1 k2 x_text x_typed t_pips t_many t_berths t_goal r_fault r_length r_kind r_start r_next r_number r_dice r_bt r_gt d_pips d_many d_berths d_goal a_shown a_calm a_windy a_turns a_many a_ever c_at c_past c_known i_at i_past i_known j_at j_past j_known x_kept gg7 gg9 vv11 x_traced)) C V cfX4 0 rfl 10 (by decide) wm_249 rfl rfl rfl (Nat.le_of_ble_eq_true rfl) rfl dX4_chalks_60 ?_
          refine tg_aload_n C dX4_chalks_63 rfl 0 rfl ?_
          refine tg_get (v := .int vv11) C cfX4 0 rfl 10 (by decide) wm_249 rfl dX4_chalks_64 ?_
          obtain ⟨rfl, rfl, rfl, rfl⟩ := tg_i4 hs
          exact tg_iret hE rfl dX4_chalks_67
        · have hs := tg_f cc6 hs
          refine tg_bipush (v := (-3)) C dX4_chalks_30 (by decide) ?_
          obtain ⟨rfl, rfl, rfl, rfl⟩ := tg_i4 hs
          exact tg_iret hE rfl dX4_chalks_32
      · have hs := tg_f cc5 hs
        refine tg_iconst (v := (-1)) C dX4_chalks_19 (by decide) ?_
        obtain ⟨rfl, rfl, rfl, rfl⟩ := tg_i4 hs
        exact tg_iret hE rfl dX4_chalks_20
set_option maxHeartbeats 2000000 in
set_option maxRecDepth 20000 in
theorem kX4_chalks (l : Launch) (D : tg_D) (h0 x0 t0 t1 t2 r0 e0 e1 e2 rt z0 b0 b1 b2 b3 b4 c0 c1 c2 m0 i0 i1 i2 j0 j1 j2 k0 k1 k2 : Nat) (x_text : Nat → Int32) (x_typed : Int32) (t_pips : Nat → Int32) (t_many : Nat → Int32) (t_berths : Int32) (t_goal : Int32) (r_fault : Int32) (r_length : Int32) (r_kind : Int32) (r_start : Int32) (r_next : Int32) (r_number : Int32) (r_dice : Int32) (r_bt : Int32) (r_gt : Int32) (d_pips : Nat → Int32) (d_many : Nat → Int32) (d_berths : Int32) (d_goal : Int32) (a_shown : Nat → Int32) (a_calm : Nat → Int32) (a_windy : Nat → Int32) (a_turns : Nat → Int32) (a_many : Int32) (a_ever : Int32) (c_at : Nat → Int32) (c_past : Nat → Int32) (c_known : Int32) (i_at : Nat → Int32) (i_past : Nat → Int32) (i_known : Int32) (j_at : Nat → Int32) (j_past : Nat → Int32) (j_known : Int32) (x_kept : Nat → Int32) (x_cb : Nat → Int32) (x_ct : Nat → Int32) (x_chalked : Int32) (x_traced : Int64) (p1 : Int32) (p2 : Int32) (r : Int32) (q_x_cb : Nat → Int32) (q_x_ct : Nat → Int32) (q_x_chalked : Int32) (hs : fX4_chalks t_berths x_cb x_ct x_chalked p1 p2 = some (r, q_x_cb, q_x_ct, q_x_chalked)) : Met l yX4_chalks [Cond.code yX4_chalks cX4_chalks 3 (some .int)] (tg_rm 1 21) (tg_Pre D (tw_X D h0 x0 t0 t1 t2 r0 e0 e1 e2 rt z0 b0 b1 b2 b3 b4 c0 c1 c2 m0 i0 i1 i2 j0 j1 j2 k0 k1 k2 x_text x_typed t_pips t_many t_berths t_goal r_fault r_length r_kind r_start r_next r_number r_dice r_bt r_gt d_pips d_many d_berths d_goal a_shown a_calm a_windy a_turns a_many a_ever c_at c_past c_known i_at i_past i_known j_at j_past j_known x_kept x_cb x_ct x_chalked x_traced) [.ref h0, .int p1, .int p2]) (tg_Qe (some (.int r)) D (tw_X D h0 x0 t0 t1 t2 r0 e0 e1 e2 rt z0 b0 b1 b2 b3 b4 c0 c1 c2 m0 i0 i1 i2 j0 j1 j2 k0 k1 k2 x_text x_typed t_pips t_many t_berths t_goal r_fault r_length r_kind r_start r_next r_number r_dice r_bt r_gt d_pips d_many d_berths d_goal a_shown a_calm a_windy a_turns a_many a_ever c_at c_past c_known i_at i_past i_known j_at j_past j_known x_kept q_x_cb q_x_ct q_x_chalked x_traced) (tg_Ad (tw_X D h0 x0 t0 t1 t2 r0 e0 e1 e2 rt z0 b0 b1 b2 b3 b4 c0 c1 c2 m0 i0 i1 i2 j0 j1 j2 k0 k1 k2 x_text x_typed t_pips t_many t_berths t_goal r_fault r_length r_kind r_start r_next r_number r_dice r_bt r_gt d_pips d_many d_berths d_goal a_shown a_calm a_windy a_turns a_many a_ever c_at c_past c_known i_at i_past i_known j_at j_past j_known x_kept x_cb x_ct x_chalked x_traced))) 0 0 (tg_Ad (tw_X D h0 x0 t0 t1 t2 r0 e0 e1 e2 rt z0 b0 b1 b2 b3 b4 c0 c1 c2 m0 i0 i1 i2 j0 j1 j2 k0 k1 k2 x_text x_typed t_pips t_many t_berths t_goal r_fault r_length r_kind r_start r_next r_number r_dice r_bt r_gt d_pips d_many d_berths d_goal a_shown a_calm a_windy a_turns a_many a_ever c_at c_past c_known i_at i_past i_known j_at j_past j_known x_kept x_cb x_ct x_chalked x_traced)) := tg_metEi (by decide) (Nat.le_of_ble_eq_true rfl) (fun X hl0 C V hE => vX4_chalks l D h0 x0 t0 t1 t2 r0 e0 e1 e2 rt z0 b0 b1 b2 b3 b4 c0 c1 c2 m0 i0 i1 i2 j0 j1 j2 k0 k1 k2 x_text x_typed t_pips t_many t_berths t_goal r_fault r_length r_kind r_start r_next r_number r_dice r_bt r_gt d_pips d_many d_berths d_goal a_shown a_calm a_windy a_turns a_many a_ever c_at c_past c_known i_at i_past i_known j_at j_past j_known x_kept x_cb x_ct x_chalked x_traced p1 p2 X hl0 C V r q_x_cb q_x_ct q_x_chalked hs hE)
def fX4_wipes (x_chalked : Int32) : Option (Int32 × Int32) := some (x_chalked, 0)
set_option maxHeartbeats 2000000 in
set_option maxRecDepth 20000 in
theorem vX4_wipes (l : Launch) (D : tg_D) (h0 x0 t0 t1 t2 r0 e0 e1 e2 rt z0 b0 b1 b2 b3 b4 c0 c1 c2 m0 i0 i1 i2 j0 j1 j2 k0 k1 k2 : Nat) (x_text : Nat → Int32) (x_typed : Int32) (t_pips : Nat → Int32) (t_many : Nat → Int32) (t_berths : Int32) (t_goal : Int32) (r_fault : Int32) (r_length : Int32) (r_kind : Int32) (r_start : Int32) (r_next : Int32) (r_number : Int32) (r_dice : Int32) (r_bt : Int32) (r_gt : Int32) (d_pips : Nat → Int32) (d_many : Nat → Int32) (d_berths : Int32) (d_goal : Int32) (a_shown : Nat → Int32) (a_calm : Nat → Int32) (a_windy : Nat → Int32) (a_turns : Nat → Int32) (a_many : Int32) (a_ever : Int32) (c_at : Nat → Int32) (c_past : Nat → Int32) (c_known : Int32) (i_at : Nat → Int32) (i_past : Nat → Int32) (i_known : Int32) (j_at : Nat → Int32) (j_past : Nat → Int32) (j_known : Int32) (x_kept : Nat → Int32) (x_cb : Nat → Int32) (x_ct : Nat → Int32) (x_chalked : Int32) (x_traced : Int64) (X : tg_X) (hl0 : tg_l X = l) (C : tg_C X D 2 cX4_wipes RX4 0 0 0 0) (V : tg_V X) (r : Int32) (q_x_chalked : Int32) (hs : fX4_wipes x_chalked = some (r, q_x_chalked)) (hE : tg_Ei X D 0 0 cX4_wipes .int r (tw_X D h0 x0 t0 t1 t2 r0 e0 e1 e2 rt z0 b0 b1 b2 b3 b4 c0 c1 c2 m0 i0 i1 i2 j0 j1 j2 k0 k1 k2 x_text x_typed t_pips t_many t_berths t_goal r_fault r_length r_kind r_start r_next r_number r_dice r_bt r_gt d_pips d_many d_berths d_goal a_shown a_calm a_windy a_turns a_many a_ever c_at c_past c_known i_at i_past i_known j_at j_past j_known x_kept x_cb x_ct q_x_chalked x_traced)) : tg_G X D 2 0 0 (tw_X D h0 x0 t0 t1 t2 r0 e0 e1 e2 rt z0 b0 b1 b2 b3 b4 c0 c1 c2 m0 i0 i1 i2 j0 j1 j2 k0 k1 k2 x_text x_typed t_pips t_many t_berths t_goal r_fault r_length r_kind r_start r_next r_number r_dice r_bt r_gt d_pips d_many d_berths d_goal a_shown a_calm a_windy a_turns a_many a_ever c_at c_past c_known i_at i_past i_known j_at j_past j_known x_kept x_cb x_ct x_chalked x_traced) [(0, .ref h0)] 0 [] := by
  unfold fX4_wipes at hs
  refine tg_aload_n C dX4_wipes_0 rfl 0 rfl ?_
  refine tg_get (v := .int x_chalked) C cfX4 0 rfl 10 (by decide) wm_249 rfl dX4_wipes_1 ?_
  refine tg_istore_n (lv' := [(1, .int x_chalked), (0, .ref h0)]) C dX4_wipes_4 rfl (by decide) rfl ?_
  refine tg_aload_n C dX4_wipes_5 rfl 1 rfl ?_
  refine tg_iconst (v := 0) C dX4_wipes_6 (by decide) ?_
  refine tg_put (ws' := (tw_X D h0 x0 t0 t1 t2 r0 e0 e1 e2 rt z0 b0 b1 b2 b3 b4 c0 c1 c2 m0 i0 i1 i2 j0 j1 j2 k0 k1 k2 x_text x_typed t_pips t_many t_berths t_goal r_fault r_length r_kind r_start r_next r_number r_dice r_bt r_gt d_pips d_many d_berths d_goal a_shown a_calm a_windy a_turns a_many a_ever c_at c_past c_known i_at i_past i_known j_at j_past j_known x_kept x_cb x_ct 0 x_traced)) C V cfX4 0 rfl 10 (by decide) wm_249 rfl rfl rfl (Nat.le_of_ble_eq_true rfl) rfl dX4_wipes_7 ?_
  refine tg_iload_n C dX4_wipes_10 rfl 0 rfl ?_
  obtain ⟨rfl, rfl⟩ := tg_i2 hs
  exact tg_iret hE rfl dX4_wipes_11
set_option maxHeartbeats 2000000 in
set_option maxRecDepth 20000 in
theorem kX4_wipes (l : Launch) (D : tg_D) (h0 x0 t0 t1 t2 r0 e0 e1 e2 rt z0 b0 b1 b2 b3 b4 c0 c1 c2 m0 i0 i1 i2 j0 j1 j2 k0 k1 k2 : Nat) (x_text : Nat → Int32) (x_typed : Int32) (t_pips : Nat → Int32) (t_many : Nat → Int32) (t_berths : Int32) (t_goal : Int32) (r_fault : Int32) (r_length : Int32) (r_kind : Int32) (r_start : Int32) (r_next : Int32) (r_number : Int32) (r_dice : Int32) (r_bt : Int32) (r_gt : Int32) (d_pips : Nat → Int32) (d_many : Nat → Int32) (d_berths : Int32) (d_goal : Int32) (a_shown : Nat → Int32) (a_calm : Nat → Int32) (a_windy : Nat → Int32) (a_turns : Nat → Int32) (a_many : Int32) (a_ever : Int32) (c_at : Nat → Int32) (c_past : Nat → Int32) (c_known : Int32) (i_at : Nat → Int32) (i_past : Nat → Int32) (i_known : Int32) (j_at : Nat → Int32) (j_past : Nat → Int32) (j_known : Int32) (x_kept : Nat → Int32) (x_cb : Nat → Int32) (x_ct : Nat → Int32) (x_chalked : Int32) (x_traced : Int64) (r : Int32) (q_x_chalked : Int32) (hs : fX4_wipes x_chalked = some (r, q_x_chalked)) : Met l yX4_wipes [Cond.code yX4_wipes cX4_wipes 2 (some .int)] (tg_rm 0 0) (tg_Pre D (tw_X D h0 x0 t0 t1 t2 r0 e0 e1 e2 rt z0 b0 b1 b2 b3 b4 c0 c1 c2 m0 i0 i1 i2 j0 j1 j2 k0 k1 k2 x_text x_typed t_pips t_many t_berths t_goal r_fault r_length r_kind r_start r_next r_number r_dice r_bt r_gt d_pips d_many d_berths d_goal a_shown a_calm a_windy a_turns a_many a_ever c_at c_past c_known i_at i_past i_known j_at j_past j_known x_kept x_cb x_ct x_chalked x_traced) [.ref h0]) (tg_Qe (some (.int r)) D (tw_X D h0 x0 t0 t1 t2 r0 e0 e1 e2 rt z0 b0 b1 b2 b3 b4 c0 c1 c2 m0 i0 i1 i2 j0 j1 j2 k0 k1 k2 x_text x_typed t_pips t_many t_berths t_goal r_fault r_length r_kind r_start r_next r_number r_dice r_bt r_gt d_pips d_many d_berths d_goal a_shown a_calm a_windy a_turns a_many a_ever c_at c_past c_known i_at i_past i_known j_at j_past j_known x_kept x_cb x_ct q_x_chalked x_traced) (tg_Ad (tw_X D h0 x0 t0 t1 t2 r0 e0 e1 e2 rt z0 b0 b1 b2 b3 b4 c0 c1 c2 m0 i0 i1 i2 j0 j1 j2 k0 k1 k2 x_text x_typed t_pips t_many t_berths t_goal r_fault r_length r_kind r_start r_next r_number r_dice r_bt r_gt d_pips d_many d_berths d_goal a_shown a_calm a_windy a_turns a_many a_ever c_at c_past c_known i_at i_past i_known j_at j_past j_known x_kept x_cb x_ct x_chalked x_traced))) 0 0 (tg_Ad (tw_X D h0 x0 t0 t1 t2 r0 e0 e1 e2 rt z0 b0 b1 b2 b3 b4 c0 c1 c2 m0 i0 i1 i2 j0 j1 j2 k0 k1 k2 x_text x_typed t_pips t_many t_berths t_goal r_fault r_length r_kind r_start r_next r_number r_dice r_bt r_gt d_pips d_many d_berths d_goal a_shown a_calm a_windy a_turns a_many a_ever c_at c_past c_known i_at i_past i_known j_at j_past j_known x_kept x_cb x_ct x_chalked x_traced)) := tg_metEi (by decide) (Nat.le_of_ble_eq_true rfl) (fun X hl0 C V hE => vX4_wipes l D h0 x0 t0 t1 t2 r0 e0 e1 e2 rt z0 b0 b1 b2 b3 b4 c0 c1 c2 m0 i0 i1 i2 j0 j1 j2 k0 k1 k2 x_text x_typed t_pips t_many t_berths t_goal r_fault r_length r_kind r_start r_next r_number r_dice r_bt r_gt d_pips d_many d_berths d_goal a_shown a_calm a_windy a_turns a_many a_ever c_at c_past c_known i_at i_past i_known j_at j_past j_known x_kept x_cb x_ct x_chalked x_traced X hl0 C V r q_x_chalked hs hE)
def fX4_offOf (a_calm : Nat → Int32) (a_windy : Nat → Int32) (a_turns : Nat → Int32) (a_many : Int32) (c_at : Nat → Int32) (x_cb : Nat → Int32) (x_ct : Nat → Int32) (p1 : Int32) : Option (Int32) := tg_ck p1 6 <| tg_ck p1 6 <| tg_b1 (fX4_throwsFor a_calm a_windy a_turns a_many c_at (x_cb (Int32.toNatClampNeg p1))) fun rr3 => some (((x_ct (Int32.toNatClampNeg p1)) * a_many) - (216 * rr3))
set_option maxHeartbeats 2000000 in
set_option maxRecDepth 20000 in
theorem vX4_offOf (l : Launch) (D : tg_D) (h0 x0 t0 t1 t2 r0 e0 e1 e2 rt z0 b0 b1 b2 b3 b4 c0 c1 c2 m0 i0 i1 i2 j0 j1 j2 k0 k1 k2 : Nat) (x_text : Nat → Int32) (x_typed : Int32) (t_pips : Nat → Int32) (t_many : Nat → Int32) (t_berths : Int32) (t_goal : Int32) (r_fault : Int32) (r_length : Int32) (r_kind : Int32) (r_start : Int32) (r_next : Int32) (r_number : Int32) (r_dice : Int32) (r_bt : Int32) (r_gt : Int32) (d_pips : Nat → Int32) (d_many : Nat → Int32) (d_berths : Int32) (d_goal : Int32) (a_shown : Nat → Int32) (a_calm : Nat → Int32) (a_windy : Nat → Int32) (a_turns : Nat → Int32) (a_many : Int32) (a_ever : Int32) (c_at : Nat → Int32) (c_past : Nat → Int32) (c_known : Int32) (i_at : Nat → Int32) (i_past : Nat → Int32) (i_known : Int32) (j_at : Nat → Int32) (j_past : Nat → Int32) (j_known : Int32) (x_kept : Nat → Int32) (x_cb : Nat → Int32) (x_ct : Nat → Int32) (x_chalked : Int32) (x_traced : Int64) (p1 : Int32) (X : tg_X) (hl0 : tg_l X = l) (C : tg_C X D 2 cX4_offOf RX4 4 89 0 0) (r : Int32) (hs : fX4_offOf a_calm a_windy a_turns a_many c_at x_cb x_ct p1 = some r) (hE : tg_Ei X D 0 0 cX4_offOf .int r (tw_X D h0 x0 t0 t1 t2 r0 e0 e1 e2 rt z0 b0 b1 b2 b3 b4 c0 c1 c2 m0 i0 i1 i2 j0 j1 j2 k0 k1 k2 x_text x_typed t_pips t_many t_berths t_goal r_fault r_length r_kind r_start r_next r_number r_dice r_bt r_gt d_pips d_many d_berths d_goal a_shown a_calm a_windy a_turns a_many a_ever c_at c_past c_known i_at i_past i_known j_at j_past j_known x_kept x_cb x_ct x_chalked x_traced)) : tg_G X D 2 0 0 (tw_X D h0 x0 t0 t1 t2 r0 e0 e1 e2 rt z0 b0 b1 b2 b3 b4 c0 c1 c2 m0 i0 i1 i2 j0 j1 j2 k0 k1 k2 x_text x_typed t_pips t_many t_berths t_goal r_fault r_length r_kind r_start r_next r_number r_dice r_bt r_gt d_pips d_many d_berths d_goal a_shown a_calm a_windy a_turns a_many a_ever c_at c_past c_known i_at i_past i_known j_at j_past j_known x_kept x_cb x_ct x_chalked x_traced) [(0, .ref h0), (1, .int p1)] 0 [] := by
  unfold fX4_offOf at hs
  refine tg_aload_n C dX4_offOf_0 rfl 0 rfl ?_
  refine tg_get (v := .ref k2) C cfX4 0 rfl 9 (by decide) wm_248 rfl dX4_offOf_1 ?_
  refine tg_iload_n C dX4_offOf_4 rfl 1 rfl ?_
  obtain ⟨hh1, hs⟩ := tg_ck_e hs
  refine tg_iald C 27 0 rfl rfl hh1 dX4_offOf_5 ?_
  refine tg_aload_n C dX4_offOf_6 rfl 0 rfl ?_
  refine tg_get (v := .ref b0) C cfX4 0 rfl 4 (by decide) wm_243 rfl dX4_offOf_7 ?_
  refine tg_get (v := .int a_many) C cfX0 10 rfl 4 (by decide) wm_168 rfl dX4_offOf_10 ?_
  refine tg_imul C dX4_offOf_13 ?_
  refine tg_sipush (v := 216) C dX4_offOf_14 (by decide) ?_
  refine tg_aload_n C dX4_offOf_17 rfl 0 rfl ?_
  refine tg_aload_n C dX4_offOf_18 rfl 0 rfl ?_
  refine tg_get (v := .ref k1) C cfX4 0 rfl 8 (by decide) wm_247 rfl dX4_offOf_19 ?_
  refine tg_iload_n C dX4_offOf_22 rfl 1 rfl ?_
  obtain ⟨hh2, hs⟩ := tg_ck_e hs
  refine tg_iald C 26 0 rfl rfl hh2 dX4_offOf_23 ?_
  obtain ⟨rr3, ee4, hs⟩ := tg_b1_e hs
  refine tg_pVs (As := [.int (x_cb (Int32.toNatClampNeg p1))]) (rest := [.int 216, .int ((x_ct (Int32.toNatClampNeg p1)) * a_many)]) C hl0 (kX4_throwsFor l D h0 x0 t0 t1 t2 r0 e0 e1 e2 rt z0 b0 b1 b2 b3 b4 c0 c1 c2 m0 i0 i1 i2 j0 j1 j2 k0 k1 k2 x_text x_typed t_pips t_many t_berths t_goal r_fault r_length r_kind r_start r_next r_number r_dice r_bt r_gt d_pips d_many d_berths d_goal a_shown a_calm a_windy a_turns a_many a_ever c_at c_past c_known i_at i_past i_known j_at j_past j_known x_kept x_cb x_ct x_chalked x_traced (x_cb (Int32.toNatClampNeg p1)) rr3 ee4) wm_523 meX4_throwsFor (by decide) rfl rfl rfl rfl (Nat.le_of_ble_eq_true rfl) dX4_offOf_24 ?_
  refine tg_imul C dX4_offOf_27 ?_
  refine tg_isub C dX4_offOf_28 ?_
  obtain rfl := Option.some.inj hs
  exact tg_iret hE rfl dX4_offOf_29
set_option maxHeartbeats 2000000 in
set_option maxRecDepth 20000 in
theorem kX4_offOf (l : Launch) (D : tg_D) (h0 x0 t0 t1 t2 r0 e0 e1 e2 rt z0 b0 b1 b2 b3 b4 c0 c1 c2 m0 i0 i1 i2 j0 j1 j2 k0 k1 k2 : Nat) (x_text : Nat → Int32) (x_typed : Int32) (t_pips : Nat → Int32) (t_many : Nat → Int32) (t_berths : Int32) (t_goal : Int32) (r_fault : Int32) (r_length : Int32) (r_kind : Int32) (r_start : Int32) (r_next : Int32) (r_number : Int32) (r_dice : Int32) (r_bt : Int32) (r_gt : Int32) (d_pips : Nat → Int32) (d_many : Nat → Int32) (d_berths : Int32) (d_goal : Int32) (a_shown : Nat → Int32) (a_calm : Nat → Int32) (a_windy : Nat → Int32) (a_turns : Nat → Int32) (a_many : Int32) (a_ever : Int32) (c_at : Nat → Int32) (c_past : Nat → Int32) (c_known : Int32) (i_at : Nat → Int32) (i_past : Nat → Int32) (i_known : Int32) (j_at : Nat → Int32) (j_past : Nat → Int32) (j_known : Int32) (x_kept : Nat → Int32) (x_cb : Nat → Int32) (x_ct : Nat → Int32) (x_chalked : Int32) (x_traced : Int64) (p1 : Int32) (r : Int32) (hs : fX4_offOf a_calm a_windy a_turns a_many c_at x_cb x_ct p1 = some r) : Met l yX4_offOf [Cond.code yX4_offOf cX4_offOf 2 (some .int)] (tg_rm 4 89) (tg_Pre D (tw_X D h0 x0 t0 t1 t2 r0 e0 e1 e2 rt z0 b0 b1 b2 b3 b4 c0 c1 c2 m0 i0 i1 i2 j0 j1 j2 k0 k1 k2 x_text x_typed t_pips t_many t_berths t_goal r_fault r_length r_kind r_start r_next r_number r_dice r_bt r_gt d_pips d_many d_berths d_goal a_shown a_calm a_windy a_turns a_many a_ever c_at c_past c_known i_at i_past i_known j_at j_past j_known x_kept x_cb x_ct x_chalked x_traced) [.ref h0, .int p1]) (vp_Si (fun r' => r' = r)) 0 0 (fun _ => False) := tg_metI (by decide) (Nat.le_of_ble_eq_true rfl) (fun X hl0 C hE => vX4_offOf l D h0 x0 t0 t1 t2 r0 e0 e1 e2 rt z0 b0 b1 b2 b3 b4 c0 c1 c2 m0 i0 i1 i2 j0 j1 j2 k0 k1 k2 x_text x_typed t_pips t_many t_berths t_goal r_fault r_length r_kind r_start r_next r_number r_dice r_bt r_gt d_pips d_many d_berths d_goal a_shown a_calm a_windy a_turns a_many a_ever c_at c_past c_known i_at i_past i_known j_at j_past j_known x_kept x_cb x_ct x_chalked x_traced p1 X hl0 C r hs hE)
def fX4_wrong_L4 (a_calm : Nat → Int32) (a_windy : Nat → Int32) (a_turns : Nat → Int32) (a_many : Int32) (c_at : Nat → Int32) (x_cb : Nat → Int32) (x_ct : Nat → Int32) (x_chalked : Int32) : Nat → Int32 → Int32 → Option (Int32 × Int32)
  | 0, _, _ => none
  | fuel + 1, n1, n2 => if x_chalked ≤ n2 then (some (n1, n2)) else (tg_b1 (fX4_offOf a_calm a_windy a_turns a_many c_at x_cb x_ct n2) fun rr2 => tg_b1 (if rr2 = 0 then (some n1) else (tg_b1 (fX4_bit n2) fun rr7 => tg_nm (n1 ||| rr7) fun vv9 => some vv9)) fun (vv5 : Int32) => tg_nm (n2 + 1) fun vv10 => fX4_wrong_L4 a_calm a_windy a_turns a_many c_at x_cb x_ct x_chalked fuel vv5 vv10)
def fX4_wrong (a_calm : Nat → Int32) (a_windy : Nat → Int32) (a_turns : Nat → Int32) (a_many : Int32) (c_at : Nat → Int32) (x_cb : Nat → Int32) (x_ct : Nat → Int32) (x_chalked : Int32) : Option (Int32) := tg_b2 (fX4_wrong_L4 a_calm a_windy a_turns a_many c_at x_cb x_ct x_chalked 400 0 0) fun vv12 vv13 => some vv12
set_option maxHeartbeats 2000000 in
set_option maxRecDepth 20000 in
theorem vX4_wrong_L4 (l : Launch) (D : tg_D) (h0 x0 t0 t1 t2 r0 e0 e1 e2 rt z0 b0 b1 b2 b3 b4 c0 c1 c2 m0 i0 i1 i2 j0 j1 j2 k0 k1 k2 : Nat) (x_text : Nat → Int32) (x_typed : Int32) (t_pips : Nat → Int32) (t_many : Nat → Int32) (t_berths : Int32) (t_goal : Int32) (r_fault : Int32) (r_length : Int32) (r_kind : Int32) (r_start : Int32) (r_next : Int32) (r_number : Int32) (r_dice : Int32) (r_bt : Int32) (r_gt : Int32) (d_pips : Nat → Int32) (d_many : Nat → Int32) (d_berths : Int32) (d_goal : Int32) (a_shown : Nat → Int32) (a_calm : Nat → Int32) (a_windy : Nat → Int32) (a_turns : Nat → Int32) (a_many : Int32) (a_ever : Int32) (c_at : Nat → Int32) (c_past : Nat → Int32) (c_known : Int32) (i_at : Nat → Int32) (i_past : Nat → Int32) (i_known : Int32) (j_at : Nat → Int32) (j_past : Nat → Int32) (j_known : Int32) (x_kept : Nat → Int32) (x_cb : Nat → Int32) (x_ct : Nat → Int32) (x_chalked : Int32) (x_traced : Int64) (X : tg_X) (hl0 : tg_l X = l) (C : tg_C X D 3 cX4_wrong RX4 5 110 0 0) (o_n1 : Int32) (o_n2 : Int32) : ∀ (fuel : Nat) (n1 : Int32) (n2 : Int32), fX4_wrong_L4 a_calm a_windy a_turns a_many c_at x_cb x_ct x_chalked fuel n1 n2 = some (o_n1, o_n2) → tg_G X D 3 0 0 (tw_X D h0 x0 t0 t1 t2 r0 e0 e1 e2 rt z0 b0 b1 b2 b3 b4 c0 c1 c2 m0 i0 i1 i2 j0 j1 j2 k0 k1 k2 x_text x_typed t_pips t_many t_berths t_goal r_fault r_length r_kind r_start r_next r_number r_dice r_bt r_gt d_pips d_many d_berths d_goal a_shown a_calm a_windy a_turns a_many a_ever c_at c_past c_known i_at i_past i_known j_at j_past j_known x_kept x_cb x_ct x_chalked x_traced) [(0, .ref h0), (1, .int o_n1), (2, .int o_n2)] 33 [] → tg_G X D 3 0 0 (tw_X D h0 x0 t0 t1 t2 r0 e0 e1 e2 rt z0 b0 b1 b2 b3 b4 c0 c1 c2 m0 i0 i1 i2 j0 j1 j2 k0 k1 k2 x_text x_typed t_pips t_many t_berths t_goal r_fault r_length r_kind r_start r_next r_number r_dice r_bt r_gt d_pips d_many d_berths d_goal a_shown a_calm a_windy a_turns a_many a_ever c_at c_past c_known i_at i_past i_known j_at j_past j_known x_kept x_cb x_ct x_chalked x_traced) [(0, .ref h0), (1, .int n1), (2, .int n2)] 4 [] := by
  intro fuel
  induction fuel with
  | zero =>
    intro n1 n2 hs _
    rw [fX4_wrong_L4] at hs
    cases hs
  | succ fuel ih =>
    intro n1 n2 hs J
    rw [fX4_wrong_L4] at hs
    refine tg_iload_n C dX4_wrong_4 rfl 2 rfl ?_
    refine tg_aload_n C dX4_wrong_5 rfl 0 rfl ?_
    refine tg_get (v := .int x_chalked) C cfX4 0 rfl 10 (by decide) wm_249 rfl dX4_wrong_6 ?_
    refine tg_icmp_ge (tgt := 33) C dX4_wrong_9 (by decide) (fun cc1 => ?_) (fun cc1 => ?_)
    · have hs := tg_t cc1 hs
      obtain ⟨rfl, rfl⟩ := tg_i2 hs
      exact J
    · have hs := tg_f cc1 hs
      refine tg_aload_n C dX4_wrong_12 rfl 0 rfl ?_
      refine tg_iload_n C dX4_wrong_13 rfl 2 rfl ?_
      obtain ⟨rr2, ee3, hs⟩ := tg_b1_e hs
      refine tg_pVs (As := [.int n2]) (rest := []) C hl0 (kX4_offOf l D h0 x0 t0 t1 t2 r0 e0 e1 e2 rt z0 b0 b1 b2 b3 b4 c0 c1 c2 m0 i0 i1 i2 j0 j1 j2 k0 k1 k2 x_text x_typed t_pips t_many t_berths t_goal r_fault r_length r_kind r_start r_next r_number r_dice r_bt r_gt d_pips d_many d_berths d_goal a_shown a_calm a_windy a_turns a_many a_ever c_at c_past c_known i_at i_past i_known j_at j_past j_known x_kept x_cb x_ct x_chalked x_traced n2 rr2 ee3) wm_579 meX4_offOf (by decide) rfl rfl rfl rfl (Nat.le_of_ble_eq_true rfl) dX4_wrong_14 ?_
      obtain ⟨vv5, ee11, hs⟩ := tg_b1_e hs
      have JJ6 : tg_G X D 3 0 0 (tw_X D h0 x0 t0 t1 t2 r0 e0 e1 e2 rt z0 b0 b1 b2 b3 b4 c0 c1 c2 m0 i0 i1 i2 j0 j1 j2 k0 k1 k2 x_text x_typed t_pips t_many t_berths t_goal r_fault r_length r_kind r_start r_next r_number r_dice r_bt r_gt d_pips d_many d_berths d_goal a_shown a_calm a_windy a_turns a_many a_ever c_at c_past c_known i_at i_past i_known j_at j_past j_known x_kept x_cb x_ct x_chalked x_traced) [(0, .ref h0), (1, .int vv5), (2, .int n2)] 27 [] := by
        obtain ⟨vv10, evv10, hs⟩ := tg_nm_e hs
        refine tg_iinc (v := vv10) (lv' := [(2, .int vv10), (0, .ref h0), (1, .int vv5)]) C dX4_wrong_27 2 rfl (by rw [evv10]; rfl) (by decide) rfl ?_
        refine tg_goto (tgt := 4) C dX4_wrong_30 (by decide) ?_
        refine tg_lsub [1, 2, 0] rfl ?_
        exact ih vv5 vv10 hs J
      have hs := ee11
      clear ee11
      refine tg_if_eq (tgt := 27) C dX4_wrong_17 (by decide) (fun cc4 => ?_) (fun cc4 => ?_)
      · have hs := tg_t cc4 hs
        obtain rfl := Option.some.inj hs
        exact JJ6
      · have hs := tg_f cc4 hs
        refine tg_iload_n C dX4_wrong_20 rfl 1 rfl ?_
        refine tg_iload_n C dX4_wrong_21 rfl 2 rfl ?_
        obtain ⟨rr7, ee8, hs⟩ := tg_b1_e hs
        refine tg_pS (As := [.int n2]) (rest := [.int n1]) C hl0 (kX4_bit l D n2 rr7 ee8) wm_375 meX4_bit (by decide) rfl rfl (Nat.le_of_ble_eq_true rfl) dX4_wrong_22 ?_
        refine tg_ior C dX4_wrong_25 ?_
        obtain ⟨vv9, evv9, hs⟩ := tg_nm_e hs
        refine tg_topi evv9 ?_
        refine tg_istore_n (lv' := [(1, .int vv9), (0, .ref h0), (2, .int n2)]) C dX4_wrong_26 rfl (by decide) rfl ?_
        obtain rfl := Option.some.inj hs
        refine tg_lsub [1, 0, 2] rfl ?_
        exact JJ6
set_option maxHeartbeats 2000000 in
set_option maxRecDepth 20000 in
theorem vX4_wrong (l : Launch) (D : tg_D) (h0 x0 t0 t1 t2 r0 e0 e1 e2 rt z0 b0 b1 b2 b3 b4 c0 c1 c2 m0 i0 i1 i2 j0 j1 j2 k0 k1 k2 : Nat) (x_text : Nat → Int32) (x_typed : Int32) (t_pips : Nat → Int32) (t_many : Nat → Int32) (t_berths : Int32) (t_goal : Int32) (r_fault : Int32) (r_length : Int32) (r_kind : Int32) (r_start : Int32) (r_next : Int32) (r_number : Int32) (r_dice : Int32) (r_bt : Int32) (r_gt : Int32) (d_pips : Nat → Int32) (d_many : Nat → Int32) (d_berths : Int32) (d_goal : Int32) (a_shown : Nat → Int32) (a_calm : Nat → Int32) (a_windy : Nat → Int32) (a_turns : Nat → Int32) (a_many : Int32) (a_ever : Int32) (c_at : Nat → Int32) (c_past : Nat → Int32) (c_known : Int32) (i_at : Nat → Int32) (i_past : Nat → Int32) (i_known : Int32) (j_at : Nat → Int32) (j_past : Nat → Int32) (j_known : Int32) (x_kept : Nat → Int32) (x_cb : Nat → Int32) (x_ct : Nat → Int32) (x_chalked : Int32) (x_traced : Int64) (X : tg_X) (hl0 : tg_l X = l) (C : tg_C X D 3 cX4_wrong RX4 5 110 0 0) (r : Int32) (hs : fX4_wrong a_calm a_windy a_turns a_many c_at x_cb x_ct x_chalked = some r) (hE : tg_Ei X D 0 0 cX4_wrong .int r (tw_X D h0 x0 t0 t1 t2 r0 e0 e1 e2 rt z0 b0 b1 b2 b3 b4 c0 c1 c2 m0 i0 i1 i2 j0 j1 j2 k0 k1 k2 x_text x_typed t_pips t_many t_berths t_goal r_fault r_length r_kind r_start r_next r_number r_dice r_bt r_gt d_pips d_many d_berths d_goal a_shown a_calm a_windy a_turns a_many a_ever c_at c_past c_known i_at i_past i_known j_at j_past j_known x_kept x_cb x_ct x_chalked x_traced)) : tg_G X D 3 0 0 (tw_X D h0 x0 t0 t1 t2 r0 e0 e1 e2 rt z0 b0 b1 b2 b3 b4 c0 c1 c2 m0 i0 i1 i2 j0 j1 j2 k0 k1 k2 x_text x_typed t_pips t_many t_berths t_goal r_fault r_length r_kind r_start r_next r_number r_dice r_bt r_gt d_pips d_many d_berths d_goal a_shown a_calm a_windy a_turns a_many a_ever c_at c_past c_known i_at i_past i_known j_at j_past j_known x_kept x_cb x_ct x_chalked x_traced) [(0, .ref h0)] 0 [] := by
  unfold fX4_wrong at hs
  refine tg_iconst (v := 0) C dX4_wrong_0 (by decide) ?_
  refine tg_istore_n (lv' := [(1, .int 0), (0, .ref h0)]) C dX4_wrong_1 rfl (by decide) rfl ?_
  refine tg_iconst (v := 0) C dX4_wrong_2 (by decide) ?_
  refine tg_istore_n (lv' := [(2, .int 0), (1, .int 0), (0, .ref h0)]) C dX4_wrong_3 rfl (by decide) rfl ?_
  refine tg_lsub [2, 1, 0] rfl ?_
  obtain ⟨vv12, vv13, ee14, hs⟩ := tg_b2_e hs
  refine vX4_wrong_L4 l D h0 x0 t0 t1 t2 r0 e0 e1 e2 rt z0 b0 b1 b2 b3 b4 c0 c1 c2 m0 i0 i1 i2 j0 j1 j2 k0 k1 k2 x_text x_typed t_pips t_many t_berths t_goal r_fault r_length r_kind r_start r_next r_number r_dice r_bt r_gt d_pips d_many d_berths d_goal a_shown a_calm a_windy a_turns a_many a_ever c_at c_past c_known i_at i_past i_known j_at j_past j_known x_kept x_cb x_ct x_chalked x_traced X hl0 C vv12 vv13 400 0 0 ee14 ?_
  refine tg_iload_n C dX4_wrong_33 rfl 1 rfl ?_
  obtain rfl := Option.some.inj hs
  exact tg_iret hE rfl dX4_wrong_34
set_option maxHeartbeats 2000000 in
set_option maxRecDepth 20000 in
theorem kX4_wrong (l : Launch) (D : tg_D) (h0 x0 t0 t1 t2 r0 e0 e1 e2 rt z0 b0 b1 b2 b3 b4 c0 c1 c2 m0 i0 i1 i2 j0 j1 j2 k0 k1 k2 : Nat) (x_text : Nat → Int32) (x_typed : Int32) (t_pips : Nat → Int32) (t_many : Nat → Int32) (t_berths : Int32) (t_goal : Int32) (r_fault : Int32) (r_length : Int32) (r_kind : Int32) (r_start : Int32) (r_next : Int32) (r_number : Int32) (r_dice : Int32) (r_bt : Int32) (r_gt : Int32) (d_pips : Nat → Int32) (d_many : Nat → Int32) (d_berths : Int32) (d_goal : Int32) (a_shown : Nat → Int32) (a_calm : Nat → Int32) (a_windy : Nat → Int32) (a_turns : Nat → Int32) (a_many : Int32) (a_ever : Int32) (c_at : Nat → Int32) (c_past : Nat → Int32) (c_known : Int32) (i_at : Nat → Int32) (i_past : Nat → Int32) (i_known : Int32) (j_at : Nat → Int32) (j_past : Nat → Int32) (j_known : Int32) (x_kept : Nat → Int32) (x_cb : Nat → Int32) (x_ct : Nat → Int32) (x_chalked : Int32) (x_traced : Int64) (r : Int32) (hs : fX4_wrong a_calm a_windy a_turns a_many c_at x_cb x_ct x_chalked = some r) : Met l yX4_wrong [Cond.code yX4_wrong cX4_wrong 3 (some .int)] (tg_rm 5 110) (tg_Pre D (tw_X D h0 x0 t0 t1 t2 r0 e0 e1 e2 rt z0 b0 b1 b2 b3 b4 c0 c1 c2 m0 i0 i1 i2 j0 j1 j2 k0 k1 k2 x_text x_typed t_pips t_many t_berths t_goal r_fault r_length r_kind r_start r_next r_number r_dice r_bt r_gt d_pips d_many d_berths d_goal a_shown a_calm a_windy a_turns a_many a_ever c_at c_past c_known i_at i_past i_known j_at j_past j_known x_kept x_cb x_ct x_chalked x_traced) [.ref h0]) (vp_Si (fun r' => r' = r)) 0 0 (fun _ => False) := tg_metI (by decide) (Nat.le_of_ble_eq_true rfl) (fun X hl0 C hE => vX4_wrong l D h0 x0 t0 t1 t2 r0 e0 e1 e2 rt z0 b0 b1 b2 b3 b4 c0 c1 c2 m0 i0 i1 i2 j0 j1 j2 k0 k1 k2 x_text x_typed t_pips t_many t_berths t_goal r_fault r_length r_kind r_start r_next r_number r_dice r_bt r_gt d_pips d_many d_berths d_goal a_shown a_calm a_windy a_turns a_many a_ever c_at c_past c_known i_at i_past i_known j_at j_past j_known x_kept x_cb x_ct x_chalked x_traced X hl0 C r hs hE)
def fX4_off (a_calm : Nat → Int32) (a_windy : Nat → Int32) (a_turns : Nat → Int32) (a_many : Int32) (c_at : Nat → Int32) (x_cb : Nat → Int32) (x_ct : Nat → Int32) (x_chalked : Int32) (p1 : Int32) : Option (Int32) := if p1 < 0 then (some (-1000000)) else (if p1 < x_chalked then (tg_b1 (fX4_offOf a_calm a_windy a_turns a_many c_at x_cb x_ct p1) fun rr3 => some rr3) else (some (-1000000)))
set_option maxHeartbeats 2000000 in
set_option maxRecDepth 20000 in
theorem vX4_off (l : Launch) (D : tg_D) (h0 x0 t0 t1 t2 r0 e0 e1 e2 rt z0 b0 b1 b2 b3 b4 c0 c1 c2 m0 i0 i1 i2 j0 j1 j2 k0 k1 k2 : Nat) (x_text : Nat → Int32) (x_typed : Int32) (t_pips : Nat → Int32) (t_many : Nat → Int32) (t_berths : Int32) (t_goal : Int32) (r_fault : Int32) (r_length : Int32) (r_kind : Int32) (r_start : Int32) (r_next : Int32) (r_number : Int32) (r_dice : Int32) (r_bt : Int32) (r_gt : Int32) (d_pips : Nat → Int32) (d_many : Nat → Int32) (d_berths : Int32) (d_goal : Int32) (a_shown : Nat → Int32) (a_calm : Nat → Int32) (a_windy : Nat → Int32) (a_turns : Nat → Int32) (a_many : Int32) (a_ever : Int32) (c_at : Nat → Int32) (c_past : Nat → Int32) (c_known : Int32) (i_at : Nat → Int32) (i_past : Nat → Int32) (i_known : Int32) (j_at : Nat → Int32) (j_past : Nat → Int32) (j_known : Int32) (x_kept : Nat → Int32) (x_cb : Nat → Int32) (x_ct : Nat → Int32) (x_chalked : Int32) (x_traced : Int64) (p1 : Int32) (X : tg_X) (hl0 : tg_l X = l) (C : tg_C X D 2 cX4_off RX4 5 110 0 0) (r : Int32) (hs : fX4_off a_calm a_windy a_turns a_many c_at x_cb x_ct x_chalked p1 = some r) (hE : tg_Ei X D 0 0 cX4_off .int r (tw_X D h0 x0 t0 t1 t2 r0 e0 e1 e2 rt z0 b0 b1 b2 b3 b4 c0 c1 c2 m0 i0 i1 i2 j0 j1 j2 k0 k1 k2 x_text x_typed t_pips t_many t_berths t_goal r_fault r_length r_kind r_start r_next r_number r_dice r_bt r_gt d_pips d_many d_berths d_goal a_shown a_calm a_windy a_turns a_many a_ever c_at c_past c_known i_at i_past i_known j_at j_past j_known x_kept x_cb x_ct x_chalked x_traced)) : tg_G X D 2 0 0 (tw_X D h0 x0 t0 t1 t2 r0 e0 e1 e2 rt z0 b0 b1 b2 b3 b4 c0 c1 c2 m0 i0 i1 i2 j0 j1 j2 k0 k1 k2 x_text x_typed t_pips t_many t_berths t_goal r_fault r_length r_kind r_start r_next r_number r_dice r_bt r_gt d_pips d_many d_berths d_goal a_shown a_calm a_windy a_turns a_many a_ever c_at c_past c_known i_at i_past i_known j_at j_past j_known x_kept x_cb x_ct x_chalked x_traced) [(0, .ref h0), (1, .int p1)] 0 [] := by
  unfold fX4_off at hs
  refine tg_iload_n C dX4_off_0 rfl 1 rfl ?_
  refine tg_if_lt (tgt := 12) C dX4_off_1 (by decide) (fun cc1 => ?_) (fun cc1 => ?_)
  · have hs := tg_t cc1 hs
    refine tg_ldc C wm_515 dX4_off_12 ?_
    refine tg_goto (tgt := 22) C dX4_off_14 (by decide) ?_
    obtain rfl := Option.some.inj hs
    exact tg_iret hE rfl dX4_off_22
  · have hs := tg_f cc1 hs
    refine tg_iload_n C dX4_off_4 rfl 1 rfl ?_
    refine tg_aload_n C dX4_off_5 rfl 0 rfl ?_
    refine tg_get (v := .int x_chalked) C cfX4 0 rfl 10 (by decide) wm_249 rfl dX4_off_6 ?_
    refine tg_icmp_lt (tgt := 17) C dX4_off_9 (by decide) (fun cc2 => ?_) (fun cc2 => ?_)
    · have hs := tg_t cc2 hs
      refine tg_aload_n C dX4_off_17 rfl 0 rfl ?_
      refine tg_iload_n C dX4_off_18 rfl 1 rfl ?_
      obtain ⟨rr3, ee4, hs⟩ := tg_b1_e hs
      refine tg_pVs (As := [.int p1]) (rest := []) C hl0 (kX4_offOf l D h0 x0 t0 t1 t2 r0 e0 e1 e2 rt z0 b0 b1 b2 b3 b4 c0 c1 c2 m0 i0 i1 i2 j0 j1 j2 k0 k1 k2 x_text x_typed t_pips t_many t_berths t_goal r_fault r_length r_kind r_start r_next r_number r_dice r_bt r_gt d_pips d_many d_berths d_goal a_shown a_calm a_windy a_turns a_many a_ever c_at c_past c_known i_at i_past i_known j_at j_past j_known x_kept x_cb x_ct x_chalked x_traced p1 rr3 ee4) wm_579 meX4_offOf (by decide) rfl rfl rfl rfl (Nat.le_of_ble_eq_true rfl) dX4_off_19 ?_
      obtain rfl := Option.some.inj hs
      exact tg_iret hE rfl dX4_off_22
    · have hs := tg_f cc2 hs
      refine tg_ldc C wm_515 dX4_off_12 ?_
      refine tg_goto (tgt := 22) C dX4_off_14 (by decide) ?_
      obtain rfl := Option.some.inj hs
      exact tg_iret hE rfl dX4_off_22
set_option maxHeartbeats 2000000 in
set_option maxRecDepth 20000 in
theorem kX4_off (l : Launch) (D : tg_D) (h0 x0 t0 t1 t2 r0 e0 e1 e2 rt z0 b0 b1 b2 b3 b4 c0 c1 c2 m0 i0 i1 i2 j0 j1 j2 k0 k1 k2 : Nat) (x_text : Nat → Int32) (x_typed : Int32) (t_pips : Nat → Int32) (t_many : Nat → Int32) (t_berths : Int32) (t_goal : Int32) (r_fault : Int32) (r_length : Int32) (r_kind : Int32) (r_start : Int32) (r_next : Int32) (r_number : Int32) (r_dice : Int32) (r_bt : Int32) (r_gt : Int32) (d_pips : Nat → Int32) (d_many : Nat → Int32) (d_berths : Int32) (d_goal : Int32) (a_shown : Nat → Int32) (a_calm : Nat → Int32) (a_windy : Nat → Int32) (a_turns : Nat → Int32) (a_many : Int32) (a_ever : Int32) (c_at : Nat → Int32) (c_past : Nat → Int32) (c_known : Int32) (i_at : Nat → Int32) (i_past : Nat → Int32) (i_known : Int32) (j_at : Nat → Int32) (j_past : Nat → Int32) (j_known : Int32) (x_kept : Nat → Int32) (x_cb : Nat → Int32) (x_ct : Nat → Int32) (x_chalked : Int32) (x_traced : Int64) (p1 : Int32) (r : Int32) (hs : fX4_off a_calm a_windy a_turns a_many c_at x_cb x_ct x_chalked p1 = some r) : Met l yX4_off [Cond.code yX4_off cX4_off 2 (some .int)] (tg_rm 5 110) (tg_Pre D (tw_X D h0 x0 t0 t1 t2 r0 e0 e1 e2 rt z0 b0 b1 b2 b3 b4 c0 c1 c2 m0 i0 i1 i2 j0 j1 j2 k0 k1 k2 x_text x_typed t_pips t_many t_berths t_goal r_fault r_length r_kind r_start r_next r_number r_dice r_bt r_gt d_pips d_many d_berths d_goal a_shown a_calm a_windy a_turns a_many a_ever c_at c_past c_known i_at i_past i_known j_at j_past j_known x_kept x_cb x_ct x_chalked x_traced) [.ref h0, .int p1]) (vp_Si (fun r' => r' = r)) 0 0 (fun _ => False) := tg_metI (by decide) (Nat.le_of_ble_eq_true rfl) (fun X hl0 C hE => vX4_off l D h0 x0 t0 t1 t2 r0 e0 e1 e2 rt z0 b0 b1 b2 b3 b4 c0 c1 c2 m0 i0 i1 i2 j0 j1 j2 k0 k1 k2 x_text x_typed t_pips t_many t_berths t_goal r_fault r_length r_kind r_start r_next r_number r_dice r_bt r_gt d_pips d_many d_berths d_goal a_shown a_calm a_windy a_turns a_many a_ever c_at c_past c_known i_at i_past i_known j_at j_past j_known x_kept x_cb x_ct x_chalked x_traced p1 X hl0 C r hs hE)
