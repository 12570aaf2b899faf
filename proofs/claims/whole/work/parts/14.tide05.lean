def fX4_ring (t_pips : Nat → Int32) (t_many : Nat → Int32) : Option (Int32) := tg_b1 (fX3_mostlyWins t_pips t_many 0 1) fun rr1 => if rr1 = 0 then (tg_b1 (fX3_mostlyWins t_pips t_many 1 0) fun rr4 => if rr4 = 0 then (some 0) else (tg_b1 (fX3_mostlyWins t_pips t_many 2 1) fun rr7 => if rr7 = 0 then (some 0) else (tg_b1 (fX3_mostlyWins t_pips t_many 0 2) fun rr10 => if rr10 = 0 then (some 0) else (some 2)))) else (tg_b1 (fX3_mostlyWins t_pips t_many 1 2) fun rr13 => if rr13 = 0 then (tg_b1 (fX3_mostlyWins t_pips t_many 1 0) fun rr16 => if rr16 = 0 then (some 0) else (tg_b1 (fX3_mostlyWins t_pips t_many 2 1) fun rr19 => if rr19 = 0 then (some 0) else (tg_b1 (fX3_mostlyWins t_pips t_many 0 2) fun rr22 => if rr22 = 0 then (some 0) else (some 2)))) else (tg_b1 (fX3_mostlyWins t_pips t_many 2 0) fun rr25 => if rr25 = 0 then (tg_b1 (fX3_mostlyWins t_pips t_many 1 0) fun rr28 => if rr28 = 0 then (some 0) else (tg_b1 (fX3_mostlyWins t_pips t_many 2 1) fun rr31 => if rr31 = 0 then (some 0) else (tg_b1 (fX3_mostlyWins t_pips t_many 0 2) fun rr34 => if rr34 = 0 then (some 0) else (some 2)))) else (some 1)))
set_option maxHeartbeats 2000000 in
set_option maxRecDepth 20000 in
theorem vX4_ring (l : Launch) (D : tg_D) (h0 x0 t0 t1 t2 r0 e0 e1 e2 rt z0 b0 b1 b2 b3 b4 c0 c1 c2 m0 i0 i1 i2 j0 j1 j2 k0 k1 k2 : Nat) (x_text : Nat → Int32) (x_typed : Int32) (t_pips : Nat → Int32) (t_many : Nat → Int32) (t_berths : Int32) (t_goal : Int32) (r_fault : Int32) (r_length : Int32) (r_kind : Int32) (r_start : Int32) (r_next : Int32) (r_number : Int32) (r_dice : Int32) (r_bt : Int32) (r_gt : Int32) (d_pips : Nat → Int32) (d_many : Nat → Int32) (d_berths : Int32) (d_goal : Int32) (a_shown : Nat → Int32) (a_calm : Nat → Int32) (a_windy : Nat → Int32) (a_turns : Nat → Int32) (a_many : Int32) (a_ever : Int32) (c_at : Nat → Int32) (c_past : Nat → Int32) (c_known : Int32) (i_at : Nat → Int32) (i_past : Nat → Int32) (i_known : Int32) (j_at : Nat → Int32) (j_past : Nat → Int32) (j_known : Int32) (x_kept : Nat → Int32) (x_cb : Nat → Int32) (x_ct : Nat → Int32) (x_chalked : Int32) (x_traced : Int64) (X : tg_X) (hl0 : tg_l X = l) (C : tg_C X D 1 cX4_ring RX4 3 69 0 0) (r : Int32) (hs : fX4_ring t_pips t_many = some r) (hE : tg_Ei X D 0 0 cX4_ring .int r (tw_X D h0 x0 t0 t1 t2 r0 e0 e1 e2 rt z0 b0 b1 b2 b3 b4 c0 c1 c2 m0 i0 i1 i2 j0 j1 j2 k0 k1 k2 x_text x_typed t_pips t_many t_berths t_goal r_fault r_length r_kind r_start r_next r_number r_dice r_bt r_gt d_pips d_many d_berths d_goal a_shown a_calm a_windy a_turns a_many a_ever c_at c_past c_known i_at i_past i_known j_at j_past j_known x_kept x_cb x_ct x_chalked x_traced)) : tg_G X D 1 0 0 (tw_X D h0 x0 t0 t1 t2 r0 e0 e1 e2 rt z0 b0 b1 b2 b3 b4 c0 c1 c2 m0 i0 i1 i2 j0 j1 j2 k0 k1 k2 x_text x_typed t_pips t_many t_berths t_goal r_fault r_length r_kind r_start r_next r_number r_dice r_bt r_gt d_pips d_many d_berths d_goal a_shown a_calm a_windy a_turns a_many a_ever c_at c_past c_known i_at i_past i_known j_at j_past j_known x_kept x_cb x_ct x_chalked x_traced) [(0, .ref h0)] 0 [] := by
  unfold fX4_ring at hs
  refine tg_aload_n C dX4_ring_0 rfl 0 rfl ?_
  refine tg_get (v := .ref t0) C cfX4 0 rfl 2 (by decide) wm_241 rfl dX4_ring_1 ?_
  refine tg_iconst (v := 0) C dX4_ring_4 (by decide) ?_
  refine tg_iconst (v := 1) C dX4_ring_5 (by decide) ?_
  obtain ⟨rr1, ee2, hs⟩ := tg_b1_e hs
  refine tg_pV (As := [.int 0, .int 1]) (rest := []) C hl0 (kX3_mostlyWins l D t0 t1 t2 t_pips t_many t_berths t_goal 0 1 rr1 ee2) wm_628 meX3_mostlyWins (by decide) [2, 3, 4] rfl (by decide) rfl rfl rfl rfl (Nat.le_of_ble_eq_true rfl) dX4_ring_6 ?_
  refine tg_if_eq (tgt := 38) C dX4_ring_9 (by decide) (fun cc3 => ?_) (fun cc3 => ?_)
  · have hs := tg_t cc3 hs
    refine tg_aload_n C dX4_ring_38 rfl 0 rfl ?_
    refine tg_get (v := .ref t0) C cfX4 0 rfl 2 (by decide) wm_241 rfl dX4_ring_39 ?_
    refine tg_iconst (v := 1) C dX4_ring_42 (by decide) ?_
    refine tg_iconst (v := 0) C dX4_ring_43 (by decide) ?_
    obtain ⟨rr4, ee5, hs⟩ := tg_b1_e hs
    refine tg_pV (As := [.int 1, .int 0]) (rest := []) C hl0 (kX3_mostlyWins l D t0 t1 t2 t_pips t_many t_berths t_goal 1 0 rr4 ee5) wm_628 meX3_mostlyWins (by decide) [2, 3, 4] rfl (by decide) rfl rfl rfl rfl (Nat.le_of_ble_eq_true rfl) dX4_ring_44 ?_
    refine tg_if_eq (tgt := 76) C dX4_ring_47 (by decide) (fun cc6 => ?_) (fun cc6 => ?_)
    · have hs := tg_t cc6 hs
      refine tg_iconst (v := 0) C dX4_ring_76 (by decide) ?_
      obtain rfl := Option.some.inj hs
      exact tg_iret hE rfl dX4_ring_77
    · have hs := tg_f cc6 hs
      refine tg_aload_n C dX4_ring_50 rfl 0 rfl ?_
      refine tg_get (v := .ref t0) C cfX4 0 rfl 2 (by decide) wm_241 rfl dX4_ring_51 ?_
      refine tg_iconst (v := 2) C dX4_ring_54 (by decide) ?_
      refine tg_iconst (v := 1) C dX4_ring_55 (by decide) ?_
      obtain ⟨rr7, ee8, hs⟩ := tg_b1_e hs
      refine tg_pV (As := [.int 2, .int 1]) (rest := []) C hl0 (kX3_mostlyWins l D t0 t1 t2 t_pips t_many t_berths t_goal 2 1 rr7 ee8) wm_628 meX3_mostlyWins (by decide) [2, 3, 4] rfl (by decide) rfl rfl rfl rfl (Nat.le_of_ble_eq_true rfl) dX4_ring_56 ?_
      refine tg_if_eq (tgt := 76) C dX4_ring_59 (by decide) (fun cc9 => ?_) (fun cc9 => ?_)
      · have hs := tg_t cc9 hs
        refine tg_iconst (v := 0) C dX4_ring_76 (by decide) ?_
        obtain rfl := Option.some.inj hs
        exact tg_iret hE rfl dX4_ring_77
      · have hs := tg_f cc9 hs
        refine tg_aload_n C dX4_ring_62 rfl 0 rfl ?_
        refine tg_get (v := .ref t0) C cfX4 0 rfl 2 (by decide) wm_241 rfl dX4_ring_63 ?_
        refine tg_iconst (v := 0) C dX4_ring_66 (by decide) ?_
        refine tg_iconst (v := 2) C dX4_ring_67 (by decide) ?_
        obtain ⟨rr10, ee11, hs⟩ := tg_b1_e hs
        refine tg_pV (As := [.int 0, .int 2]) (rest := []) C hl0 (kX3_mostlyWins l D t0 t1 t2 t_pips t_many t_berths t_goal 0 2 rr10 ee11) wm_628 meX3_mostlyWins (by decide) [2, 3, 4] rfl (by decide) rfl rfl rfl rfl (Nat.le_of_ble_eq_true rfl) dX4_ring_68 ?_
        refine tg_if_eq (tgt := 76) C dX4_ring_71 (by decide) (fun cc12 => ?_) (fun cc12 => ?_)
        · have hs := tg_t cc12 hs
          refine tg_iconst (v := 0) C dX4_ring_76 (by decide) ?_
          obtain rfl := Option.some.inj hs
          exact tg_iret hE rfl dX4_ring_77
        · have hs := tg_f cc12 hs
          refine tg_iconst (v := 2) C dX4_ring_74 (by decide) ?_
          obtain rfl := Option.some.inj hs
          exact tg_iret hE rfl dX4_ring_75
  · have hs := tg_f cc3 hs
    refine tg_aload_n C dX4_ring_12 rfl 0 rfl ?_
    refine tg_get (v := .ref t0) C cfX4 0 rfl 2 (by decide) wm_241 rfl dX4_ring_13 ?_
    refine tg_iconst (v := 1) C dX4_ring_16 (by decide) ?_
    refine tg_iconst (v := 2) C dX4_ring_17 (by decide) ?_
    obtain ⟨rr13, ee14, hs⟩ := tg_b1_e hs
    refine tg_pV (As := [.int 1, .int 2]) (rest := []) C hl0 (kX3_mostlyWins l D t0 t1 t2 t_pips t_many t_berths t_goal 1 2 rr13 ee14) wm_628 meX3_mostlyWins (by decide) [2, 3, 4] rfl (by decide) rfl rfl rfl rfl (Nat.le_of_ble_eq_true rfl) dX4_ring_18 ?_
    refine tg_if_eq (tgt := 38) C dX4_ring_21 (by decide) (fun cc15 => ?_) (fun cc15 => ?_)
    · have hs := tg_t cc15 hs
      refine tg_aload_n C dX4_ring_38 rfl 0 rfl ?_
      refine tg_get (v := .ref t0) C cfX4 0 rfl 2 (by decide) wm_241 rfl dX4_ring_39 ?_
      refine tg_iconst (v := 1) C dX4_ring_42 (by decide) ?_
      refine tg_iconst (v := 0) C dX4_ring_43 (by decide) ?_
      obtain ⟨rr16, ee17, hs⟩ := tg_b1_e hs
      refine tg_pV (As := [.int 1, .int 0]) (rest := []) C hl0 (kX3_mostlyWins l D t0 t1 t2 t_pips t_many t_berths t_goal 1 0 rr16 ee17) wm_628 meX3_mostlyWins (by decide) [2, 3, 4] rfl (by decide) rfl rfl rfl rfl (Nat.le_of_ble_eq_true rfl) dX4_ring_44 ?_
      refine tg_if_eq (tgt := 76) C dX4_ring_47 (by decide) (fun cc18 => ?_) (fun cc18 => ?_)
      · have hs := tg_t cc18 hs
        refine tg_iconst (v := 0) C dX4_ring_76 (by decide) ?_
        obtain rfl := Option.some.inj hs
        exact tg_iret hE rfl dX4_ring_77
      · have hs := tg_f cc18 hs
        refine tg_aload_n C dX4_ring_50 rfl 0 rfl ?_
        refine tg_get (v := .ref t0) C cfX4 0 rfl 2 (by decide) wm_241 rfl dX4_ring_51 ?_
        refine tg_iconst (v := 2) C dX4_ring_54 (by decide) ?_
        refine tg_iconst (v := 1) C dX4_ring_55 (by decide) ?_
        obtain ⟨rr19, ee20, hs⟩ := tg_b1_e hs
        refine tg_pV (As := [.int 2, .int 1]) (rest := []) C hl0 (kX3_mostlyWins l D t0 t1 t2 t_pips t_many t_berths t_goal 2 1 rr19 ee20) wm_628 meX3_mostlyWins (by decide) [2, 3, 4] rfl (by decide) rfl rfl rfl rfl (Nat.le_of_ble_eq_true rfl) dX4_ring_56 ?_
        refine tg_if_eq (tgt := 76) C dX4_ring_59 (by decide) (fun cc21 => ?_) (fun cc21 => ?_)
        · have hs := tg_t cc21 hs
          refine tg_iconst (v := 0) C dX4_ring_76 (by decide) ?_
          obtain rfl := Option.some.inj hs
          exact tg_iret hE rfl dX4_ring_77
        · have hs := tg_f cc21 hs
          refine tg_aload_n C dX4_ring_62 rfl 0 rfl ?_
          refine tg_get (v := .ref t0) C cfX4 0 rfl 2 (by decide) wm_241 rfl dX4_ring_63 ?_
          refine tg_iconst (v := 0) C dX4_ring_66 (by decide) ?_
          refine tg_iconst (v := 2) C dX4_ring_67 (by decide) ?_
          obtain ⟨rr22, ee23, hs⟩ := tg_b1_e hs
          refine tg_pV (As := [.int 0, .int 2]) (rest := []) C hl0 (kX3_mostlyWins l D t0 t1 t2 t_pips t_many t_berths t_goal 0 2 rr22 ee23) wm_628 meX3_mostlyWins (by decide) [2, 3, 4] rfl (by decide) rfl rfl rfl rfl (Nat.le_of_ble_eq_true rfl) dX4_ring_68 ?_
          refine tg_if_eq (tgt := 76) C dX4_ring_71 (by decide) (fun cc24 => ?_) (fun cc24 => ?_)
          · have hs := tg_t cc24 hs
            refine tg_iconst (v := 0) C dX4_ring_76 (by decide) ?_
            obtain rfl := Option.some.inj hs
            exact tg_iret hE rfl dX4_ring_77
          · have hs := tg_f cc24 hs
            refine tg_iconst (v := 2) C dX4_ring_74 (by decide) ?_
            obtain rfl := Option.some.inj hs
            exact tg_iret hE rfl dX4_ring_75
    · have hs := tg_f cc15 hs
      refine tg_aload_n C dX4_ring_24 rfl 0 rfl ?_
      refine tg_get (v := .ref t0) C cfX4 0 rfl 2 (by decide) wm_241 rfl dX4_ring_25 ?_
      refine tg_iconst (v := 2) C dX4_ring_28 (by decide) ?_
      refine tg_iconst (v := 0) C dX4_ring_29 (by decide) ?_
      obtain ⟨rr25, ee26, hs⟩ := tg_b1_e hs
      refine tg_pV (As := [.int 2, .int 0]) (rest := []) C hl0 (kX3_mostlyWins l D t0 t1 t2 t_pips t_many t_berths t_goal 2 0 rr25 ee26) wm_628 meX3_mostlyWins (by decide) [2, 3, 4] rfl (by decide) rfl rfl rfl rfl (Nat.le_of_ble_eq_true rfl) dX4_ring_30 ?_
      refine tg_if_eq (tgt := 38) C dX4_ring_33 (by decide) (fun cc27 => ?_) (fun cc27 => ?_)
      · have hs := tg_t cc27 hs
        refine tg_aload_n C dX4_ring_38 rfl 0 rfl ?_
        refine tg_get (v := .ref t0) C cfX4 0 rfl 2 (by decide) wm_241 rfl dX4_ring_39 ?_
        refine tg_iconst (v := 1) C dX4_ring_42 (by decide) ?_
        refine tg_iconst (v := 0) C dX4_ring_43 (by decide) ?_
        obtain ⟨rr28, ee29, hs⟩ := tg_b1_e hs
        refine tg_pV (As := [.int 1, .int 0]) (rest := []) C hl0 (kX3_mostlyWins l D t0 t1 t2 t_pips t_many t_berths t_goal 1 0 rr28 ee29) wm_628 meX3_mostlyWins (by decide) [2, 3, 4] rfl (by decide) rfl rfl rfl rfl (Nat.le_of_ble_eq_true rfl) dX4_ring_44 ?_
        refine tg_if_eq (tgt := 76) C dX4_ring_47 (by decide) (fun cc30 => ?_) (fun cc30 => ?_)
        · have hs := tg_t cc30 hs
          refine tg_iconst (v := 0) C dX4_ring_76 (by decide) ?_
          obtain rfl := Option.some.inj hs
          exact tg_iret hE rfl dX4_ring_77
        · have hs := tg_f cc30 hs
          refine tg_aload_n C dX4_ring_50 rfl 0 rfl ?_
          refine tg_get (v := .ref t0) C cfX4 0 rfl 2 (by decide) wm_241 rfl dX4_ring_51 ?_
          refine tg_iconst (v := 2) C dX4_ring_54 (by decide) ?_
          refine tg_iconst (v := 1) C dX4_ring_55 (by decide) ?_
          obtain ⟨rr31, ee32, hs⟩ := tg_b1_e hs
          refine tg_pV (As := [.int 2, .int 1]) (rest := []) C hl0 (kX3_mostlyWins l D t0 t1 t2 t_pips t_many t_berths t_goal 2 1 rr31 ee32) wm_628 meX3_mostlyWins (by decide) [2, 3, 4] rfl (by decide) rfl rfl rfl rfl (Nat.le_of_ble_eq_true rfl) dX4_ring_56 ?_
          refine tg_if_eq (tgt := 76) C dX4_ring_59 (by decide) (fun cc33 => ?_) (fun cc33 => ?_)
          · have hs := tg_t cc33 hs
            refine tg_iconst (v := 0) C dX4_ring_76 (by decide) ?_
            obtain rfl := Option.some.inj hs
            exact tg_iret hE rfl dX4_ring_77
          · have hs := tg_f cc33 hs
            refine tg_aload_n C dX4_ring_62 rfl 0 rfl ?_
            refine tg_get (v := .ref t0) C cfX4 0 rfl 2 (by decide) wm_241 rfl dX4_ring_63 ?_
            refine tg_iconst (v := 0) C dX4_ring_66 (by decide) ?_
            refine tg_iconst (v := 2) C dX4_ring_67 (by decide) ?_
            obtain ⟨rr34, ee35, hs⟩ := tg_b1_e hs
            refine tg_pV (As := [.int 0, .int 2]) (rest := []) C hl0 (kX3_mostlyWins l D t0 t1 t2 t_pips t_many t_berths t_goal 0 2 rr34 ee35) wm_628 meX3_mostlyWins (by decide) [2, 3, 4] rfl (by decide) rfl rfl rfl rfl (Nat.le_of_ble_eq_true rfl) dX4_ring_68 ?_
            refine tg_if_eq (tgt := 76) C dX4_ring_71 (by decide) (fun cc36 => ?_) (fun cc36 => ?_)
            · have hs := tg_t cc36 hs
              refine tg_iconst (v := 0) C dX4_ring_76 (by decide) ?_
              obtain rfl := Option.some.inj hs
              exact tg_iret hE rfl dX4_ring_77
            · have hs := tg_f cc36 hs
              refine tg_iconst (v := 2) C dX4_ring_74 (by decide) ?_
              obtain rfl := Option.some.inj hs
              exact tg_iret hE rfl dX4_ring_75
      · have hs := tg_f cc27 hs
        refine tg_iconst (v := 1) C dX4_ring_36 (by decide) ?_
        obtain rfl := Option.some.inj hs
        exact tg_iret hE rfl dX4_ring_37
set_option maxHeartbeats 2000000 in
set_option maxRecDepth 20000 in
theorem kX4_ring (l : Launch) (D : tg_D) (h0 x0 t0 t1 t2 r0 e0 e1 e2 rt z0 b0 b1 b2 b3 b4 c0 c1 c2 m0 i0 i1 i2 j0 j1 j2 k0 k1 k2 : Nat) (x_text : Nat → Int32) (x_typed : Int32) (t_pips : Nat → Int32) (t_many : Nat → Int32) (t_berths : Int32) (t_goal : Int32) (r_fault : Int32) (r_length : Int32) (r_kind : Int32) (r_start : Int32) (r_next : Int32) (r_number : Int32) (r_dice : Int32) (r_bt : Int32) (r_gt : Int32) (d_pips : Nat → Int32) (d_many : Nat → Int32) (d_berths : Int32) (d_goal : Int32) (a_shown : Nat → Int32) (a_calm : Nat → Int32) (a_windy : Nat → Int32) (a_turns : Nat → Int32) (a_many : Int32) (a_ever : Int32) (c_at : Nat → Int32) (c_past : Nat → Int32) (c_known : Int32) (i_at : Nat → Int32) (i_past : Nat → Int32) (i_known : Int32) (j_at : Nat → Int32) (j_past : Nat → Int32) (j_known : Int32) (x_kept : Nat → Int32) (x_cb : Nat → Int32) (x_ct : Nat → Int32) (x_chalked : Int32) (x_traced : Int64) (r : Int32) (hs : fX4_ring t_pips t_many = some r) : Met l yX4_ring [Cond.code yX4_ring cX4_ring 1 (some .int)] (tg_rm 3 69) (tg_Pre D (tw_X D h0 x0 t0 t1 t2 r0 e0 e1 e2 rt z0 b0 b1 b2 b3 b4 c0 c1 c2 m0 i0 i1 i2 j0 j1 j2 k0 k1 k2 x_text x_typed t_pips t_many t_berths t_goal r_fault r_length r_kind r_start r_next r_number r_dice r_bt r_gt d_pips d_many d_berths d_goal a_shown a_calm a_windy a_turns a_many a_ever c_at c_past c_known i_at i_past i_known j_at j_past j_known x_kept x_cb x_ct x_chalked x_traced) [.ref h0]) (vp_Si (fun r' => r' = r)) 0 0 (fun _ => False) := tg_metI (by decide) (Nat.le_of_ble_eq_true rfl) (fun X hl0 C hE => vX4_ring l D h0 x0 t0 t1 t2 r0 e0 e1 e2 rt z0 b0 b1 b2 b3 b4 c0 c1 c2 m0 i0 i1 i2 j0 j1 j2 k0 k1 k2 x_text x_typed t_pips t_many t_berths t_goal r_fault r_length r_kind r_start r_next r_number r_dice r_bt r_gt d_pips d_many d_berths d_goal a_shown a_calm a_windy a_turns a_many a_ever c_at c_past c_known i_at i_past i_known j_at j_past j_known x_kept x_cb x_ct x_chalked x_traced X hl0 C r hs hE)
def fX4_berthMark (x_traced : Int64) (p1 : Int32) : Option (Int32 × Int64) := tg_nm (x_traced + 1) fun vv1 => some (p1, vv1)
set_option maxHeartbeats 2000000 in
set_option maxRecDepth 20000 in
theorem vX4_berthMark (l : Launch) (D : tg_D) (h0 x0 t0 t1 t2 r0 e0 e1 e2 rt z0 b0 b1 b2 b3 b4 c0 c1 c2 m0 i0 i1 i2 j0 j1 j2 k0 k1 k2 : Nat) (x_text : Nat → Int32) (x_typed : Int32) (t_pips : Nat → Int32) (t_many : Nat → Int32) (t_berths : Int32) (t_goal : Int32) (r_fault : Int32) (r_length : Int32) (r_kind : Int32) (r_start : Int32) (r_next : Int32) (r_number : Int32) (r_dice : Int32) (r_bt : Int32) (r_gt : Int32) (d_pips : Nat → Int32) (d_many : Nat → Int32) (d_berths : Int32) (d_goal : Int32) (a_shown : Nat → Int32) (a_calm : Nat → Int32) (a_windy : Nat → Int32) (a_turns : Nat → Int32) (a_many : Int32) (a_ever : Int32) (c_at : Nat → Int32) (c_past : Nat → Int32) (c_known : Int32) (i_at : Nat → Int32) (i_past : Nat → Int32) (i_known : Int32) (j_at : Nat → Int32) (j_past : Nat → Int32) (j_known : Int32) (x_kept : Nat → Int32) (x_cb : Nat → Int32) (x_ct : Nat → Int32) (x_chalked : Int32) (x_traced : Int64) (p1 : Int32) (X : tg_X) (hl0 : tg_l X = l) (C : tg_C X D 2 cX4_berthMark RX4 0 0 0 0) (V : tg_V X) (r : Int32) (q_x_traced : Int64) (hs : fX4_berthMark x_traced p1 = some (r, q_x_traced)) (hE : tg_Ei X D 0 0 cX4_berthMark .int r (tw_X D h0 x0 t0 t1 t2 r0 e0 e1 e2 rt z0 b0 b1 b2 b3 b4 c0 c1 c2 m0 i0 i1 i2 j0 j1 j2 k0 k1 k2 x_text x_typed t_pips t_many t_berths t_goal r_fault r_length r_kind r_start r_next r_number r_dice r_bt r_gt d_pips d_many d_berths d_goal a_shown a_calm a_windy a_turns a_many a_ever c_at c_past c_known i_at i_past i_known j_at j_past j_known x_kept x_cb x_ct x_chalked q_x_traced)) : tg_G X D 2 0 0 (tw_X D h0 x0 t0 t1 t2 r0 e0 e1 e2 rt z0 b0 b1 b2 b3 b4 c0 c1 c2 m0 i0 i1 i2 j0 j1 j2 k0 k1 k2 x_text x_typed t_pips t_many t_berths t_goal r_fault r_length r_kind r_start r_next r_number r_dice r_bt r_gt d_pips d_many d_berths d_goal a_shown a_calm a_windy a_turns a_many a_ever c_at c_past c_known i_at i_past i_known j_at j_past j_known x_kept x_cb x_ct x_chalked x_traced) [(0, .ref h0), (1, .int p1)] 0 [] := by
  unfold fX4_berthMark at hs
  refine tg_aload_n C dX4_berthMark_0 rfl 0 rfl ?_
  refine tg_dup C dX4_berthMark_1 rfl ?_
  refine tg_get (v := .long x_traced) C cfX4 0 rfl 11 (by decide) wm_250 rfl dX4_berthMark_2 ?_
  refine tg_lconst (v := 1) C dX4_berthMark_5 (by decide) ?_
  refine tg_ladd C dX4_berthMark_6 ?_
  obtain ⟨vv1, evv1, hs⟩ := tg_nm_e hs
  refine tg_topl evv1 ?_
  refine tg_put (ws' := (tw_X D h0 x0 t0 t1 t2 r0 e0 e1 e2 rt z0 b0 b1 b2 b3 b4 c0 c1 c2 m0 i0 i1 i2 j0 j1 j2 k0 k1 k2 x_text x_typed t_pips t_many t_berths t_goal r_fault r_length r_kind r_start r_next r_number r_dice r_bt r_gt d_pips d_many d_berths d_goal a_shown a_calm a_windy a_turns a_many a_ever c_at c_past c_known i_at i_past i_known j_at j_past j_known x_kept x_cb x_ct x_chalked vv1)) C V cfX4 0 rfl 11 (by decide) wm_250 rfl rfl rfl (Nat.le_of_ble_eq_true rfl) rfl dX4_berthMark_7 ?_
  refine tg_iload_n C dX4_berthMark_10 rfl 1 rfl ?_
  obtain ⟨rfl, rfl⟩ := tg_i2 hs
  exact tg_iret hE rfl dX4_berthMark_11
set_option maxHeartbeats 2000000 in
set_option maxRecDepth 20000 in
theorem kX4_berthMark (l : Launch) (D : tg_D) (h0 x0 t0 t1 t2 r0 e0 e1 e2 rt z0 b0 b1 b2 b3 b4 c0 c1 c2 m0 i0 i1 i2 j0 j1 j2 k0 k1 k2 : Nat) (x_text : Nat → Int32) (x_typed : Int32) (t_pips : Nat → Int32) (t_many : Nat → Int32) (t_berths : Int32) (t_goal : Int32) (r_fault : Int32) (r_length : Int32) (r_kind : Int32) (r_start : Int32) (r_next : Int32) (r_number : Int32) (r_dice : Int32) (r_bt : Int32) (r_gt : Int32) (d_pips : Nat → Int32) (d_many : Nat → Int32) (d_berths : Int32) (d_goal : Int32) (a_shown : Nat → Int32) (a_calm : Nat → Int32) (a_windy : Nat → Int32) (a_turns : Nat → Int32) (a_many : Int32) (a_ever : Int32) (c_at : Nat → Int32) (c_past : Nat → Int32) (c_known : Int32) (i_at : Nat → Int32) (i_past : Nat → Int32) (i_known : Int32) (j_at : Nat → Int32) (j_past : Nat → Int32) (j_known : Int32) (x_kept : Nat → Int32) (x_cb : Nat → Int32) (x_ct : Nat → Int32) (x_chalked : Int32) (x_traced : Int64) (p1 : Int32) (r : Int32) (q_x_traced : Int64) (hs : fX4_berthMark x_traced p1 = some (r, q_x_traced)) : Met l yX4_berthMark [Cond.code yX4_berthMark cX4_berthMark 2 (some .int)] (tg_rm 0 0) (tg_Pre D (tw_X D h0 x0 t0 t1 t2 r0 e0 e1 e2 rt z0 b0 b1 b2 b3 b4 c0 c1 c2 m0 i0 i1 i2 j0 j1 j2 k0 k1 k2 x_text x_typed t_pips t_many t_berths t_goal r_fault r_length r_kind r_start r_next r_number r_dice r_bt r_gt d_pips d_many d_berths d_goal a_shown a_calm a_windy a_turns a_many a_ever c_at c_past c_known i_at i_past i_known j_at j_past j_known x_kept x_cb x_ct x_chalked x_traced) [.ref h0, .int p1]) (tg_Qe (some (.int r)) D (tw_X D h0 x0 t0 t1 t2 r0 e0 e1 e2 rt z0 b0 b1 b2 b3 b4 c0 c1 c2 m0 i0 i1 i2 j0 j1 j2 k0 k1 k2 x_text x_typed t_pips t_many t_berths t_goal r_fault r_length r_kind r_start r_next r_number r_dice r_bt r_gt d_pips d_many d_berths d_goal a_shown a_calm a_windy a_turns a_many a_ever c_at c_past c_known i_at i_past i_known j_at j_past j_known x_kept x_cb x_ct x_chalked q_x_traced) (tg_Ad (tw_X D h0 x0 t0 t1 t2 r0 e0 e1 e2 rt z0 b0 b1 b2 b3 b4 c0 c1 c2 m0 i0 i1 i2 j0 j1 j2 k0 k1 k2 x_text x_typed t_pips t_many t_berths t_goal r_fault r_length r_kind r_start r_next r_number r_dice r_bt r_gt d_pips d_many d_berths d_goal a_shown a_calm a_windy a_turns a_many a_ever c_at c_past c_known i_at i_past i_known j_at j_past j_known x_kept x_cb x_ct x_chalked x_traced))) 0 0 (tg_Ad (tw_X D h0 x0 t0 t1 t2 r0 e0 e1 e2 rt z0 b0 b1 b2 b3 b4 c0 c1 c2 m0 i0 i1 i2 j0 j1 j2 k0 k1 k2 x_text x_typed t_pips t_many t_berths t_goal r_fault r_length r_kind r_start r_next r_number r_dice r_bt r_gt d_pips d_many d_berths d_goal a_shown a_calm a_windy a_turns a_many a_ever c_at c_past c_known i_at i_past i_known j_at j_past j_known x_kept x_cb x_ct x_chalked x_traced)) := tg_metEi (by decide) (Nat.le_of_ble_eq_true rfl) (fun X hl0 C V hE => vX4_berthMark l D h0 x0 t0 t1 t2 r0 e0 e1 e2 rt z0 b0 b1 b2 b3 b4 c0 c1 c2 m0 i0 i1 i2 j0 j1 j2 k0 k1 k2 x_text x_typed t_pips t_many t_berths t_goal r_fault r_length r_kind r_start r_next r_number r_dice r_bt r_gt d_pips d_many d_berths d_goal a_shown a_calm a_windy a_turns a_many a_ever c_at c_past c_known i_at i_past i_known j_at j_past j_known x_kept x_cb x_ct x_chalked x_traced p1 X hl0 C V r q_x_traced hs hE)
def fX4_shipMark (a_calm : Nat → Int32) (a_windy : Nat → Int32) (a_turns : Nat → Int32) (a_many : Int32) (c_at : Nat → Int32) (x_traced : Int64) (p1 : Int32) : Option (Int32 × Int64) := tg_nm (x_traced + 10) fun vv1 => tg_b2 (fX4_berthMark vv1 p1) fun rr2 vv3 => tg_b1 (fX4_throwsFor a_calm a_windy a_turns a_many c_at p1) fun rr5 => some (rr2 + rr5, vv3)
set_option maxHeartbeats 2000000 in
set_option maxRecDepth 20000 in
theorem vX4_shipMark (l : Launch) (D : tg_D) (h0 x0 t0 t1 t2 r0 e0 e1 e2 rt z0 b0 b1 b2 b3 b4 c0 c1 c2 m0 i0 i1 i2 j0 j1 j2 k0 k1 k2 : Nat) (x_text : Nat → Int32) (x_typed : Int32) (t_pips : Nat → Int32) (t_many : Nat → Int32) (t_berths : Int32) (t_goal : Int32) (r_fault : Int32) (r_length : Int32) (r_kind : Int32) (r_start : Int32) (r_next : Int32) (r_number : Int32) (r_dice : Int32) (r_bt : Int32) (r_gt : Int32) (d_pips : Nat → Int32) (d_many : Nat → Int32) (d_berths : Int32) (d_goal : Int32) (a_shown : Nat → Int32) (a_calm : Nat → Int32) (a_windy : Nat → Int32) (a_turns : Nat → Int32) (a_many : Int32) (a_ever : Int32) (c_at : Nat → Int32) (c_past : Nat → Int32) (c_known : Int32) (i_at : Nat → Int32) (i_past : Nat → Int32) (i_known : Int32) (j_at : Nat → Int32) (j_past : Nat → Int32) (j_known : Int32) (x_kept : Nat → Int32) (x_cb : Nat → Int32) (x_ct : Nat → Int32) (x_chalked : Int32) (x_traced : Int64) (p1 : Int32) (X : tg_X) (hl0 : tg_l X = l) (C : tg_C X D 2 cX4_shipMark RX4 4 89 0 0) (V : tg_V X) (r : Int32) (q_x_traced : Int64) (hs : fX4_shipMark a_calm a_windy a_turns a_many c_at x_traced p1 = some (r, q_x_traced)) (hE : tg_Ei X D 0 0 cX4_shipMark .int r (tw_X D h0 x0 t0 t1 t2 r0 e0 e1 e2 rt z0 b0 b1 b2 b3 b4 c0 c1 c2 m0 i0 i1 i2 j0 j1 j2 k0 k1 k2 x_text x_typed t_pips t_many t_berths t_goal r_fault r_length r_kind r_start r_next r_number r_dice r_bt r_gt d_pips d_many d_berths d_goal a_shown a_calm a_windy a_turns a_many a_ever c_at c_past c_known i_at i_past i_known j_at j_past j_known x_kept x_cb x_ct x_chalked q_x_traced)) : tg_G X D 2 0 0 (tw_X D h0 x0 t0 t1 t2 r0 e0 e1 e2 rt z0 b0 b1 b2 b3 b4 c0 c1 c2 m0 i0 i1 i2 j0 j1 j2 k0 k1 k2 x_text x_typed t_pips t_many t_berths t_goal r_fault r_length r_kind r_start r_next r_number r_dice r_bt r_gt d_pips d_many d_berths d_goal a_shown a_calm a_windy a_turns a_many a_ever c_at c_past c_known i_at i_past i_known j_at j_past j_known x_kept x_cb x_ct x_chalked x_traced) [(0, .ref h0), (1, .int p1)] 0 [] := by
  unfold fX4_shipMark at hs
  refine tg_aload_n C dX4_shipMark_0 rfl 0 rfl ?_
  refine tg_dup C dX4_shipMark_1 rfl ?_
  refine tg_get (v := .long x_traced) C cfX4 0 rfl 11 (by decide) wm_250 rfl dX4_shipMark_2 ?_
  refine tg_ldc2 C wm_646 dX4_shipMark_5 ?_
  refine tg_ladd C dX4_shipMark_8 ?_
  obtain ⟨vv1, evv1, hs⟩ := tg_nm_e hs
  refine tg_topl evv1 ?_
  refine tg_put (ws' := (tw_X D h0 x0 t0 t1 t2 r0 e0 e1 e2 rt z0 b0 b1 b2 b3 b4 c0 c1 c2 m0 i0 i1 i2 j0 j1 j2 k0 k1 k2 x_text x_typed t_pips t_many t_berths t_goal r_fault r_length r_kind r_start r_next r_number r_dice r_bt r_gt d_pips d_many d_berths d_goal a_shown a_calm a_windy a_turns a_many a_ever c_at c_past c_known i_at i_past i_known j_at j_past j_known x_kept x_cb x_ct x_chalked vv1)) C V cfX4 0 rfl 11 (by decide) wm_250 rfl rfl rfl (Nat.le_of_ble_eq_true rfl) rfl dX4_shipMark_9 ?_
  refine tg_aload_n C dX4_shipMark_12 rfl 0 rfl ?_
  refine tg_iload_n C dX4_shipMark_13 rfl 1 rfl ?_
  obtain ⟨rr2, vv3, ee4, hs⟩ := tg_b2_e hs
  refine tg_eVs (ws' := (tw_X D h0 x0 t0 t1 t2 r0 e0 e1 e2 rt z0 b0 b1 b2 b3 b4 c0 c1 c2 m0 i0 i1 i2 j0 j1 j2 k0 k1 k2 x_text x_typed t_pips t_many t_berths t_goal r_fault r_length r_kind r_start r_next r_number r_dice r_bt r_gt d_pips d_many d_berths d_goal a_shown a_calm a_windy a_turns a_many a_ever c_at c_past c_known i_at i_past i_known j_at j_past j_known x_kept x_cb x_ct x_chalked vv3)) (As := [.int p1]) (rest := []) C V hl0 (kX4_berthMark l D h0 x0 t0 t1 t2 r0 e0 e1 e2 rt z0 b0 b1 b2 b3 b4 c0 c1 c2 m0 i0 i1 i2 j0 j1 j2 k0 k1 k2 x_text x_typed t_pips t_many t_berths t_goal r_fault r_length r_kind r_start r_next r_number r_dice r_bt r_gt d_pips d_many d_berths d_goal a_shown a_calm a_windy a_turns a_many a_ever c_at c_past c_known i_at i_past i_known j_at j_past j_known x_kept x_cb x_ct x_chalked vv1 p1 rr2 vv3 ee4) wm_638 meX4_berthMark (by decide) rfl rfl rfl rfl (Nat.le_of_ble_eq_true rfl) rfl dX4_shipMark_14 ?_
  refine tg_aload_n C dX4_shipMark_17 rfl 0 rfl ?_
  refine tg_iload_n C dX4_shipMark_18 rfl 1 rfl ?_
  obtain ⟨rr5, ee6, hs⟩ := tg_b1_e hs
  refine tg_pVs (As := [.int p1]) (rest := [.int rr2]) C hl0 (kX4_throwsFor l D h0 x0 t0 t1 t2 r0 e0 e1 e2 rt z0 b0 b1 b2 b3 b4 c0 c1 c2 m0 i0 i1 i2 j0 j1 j2 k0 k1 k2 x_text x_typed t_pips t_many t_berths t_goal r_fault r_length r_kind r_start r_next r_number r_dice r_bt r_gt d_pips d_many d_berths d_goal a_shown a_calm a_windy a_turns a_many a_ever c_at c_past c_known i_at i_past i_known j_at j_past j_known x_kept x_cb x_ct x_chalked vv3 p1 rr5 ee6) wm_523 meX4_throwsFor (by decide) rfl rfl rfl rfl (Nat.le_of_ble_eq_true rfl) dX4_shipMark_19 ?_
  refine tg_iadd C dX4_shipMark_22 ?_
  obtain ⟨rfl, rfl⟩ := tg_i2 hs
  exact tg_iret hE rfl dX4_shipMark_23
set_option maxHeartbeats 2000000 in
set_option maxRecDepth 20000 in
theorem kX4_shipMark (l : Launch) (D : tg_D) (h0 x0 t0 t1 t2 r0 e0 e1 e2 rt z0 b0 b1 b2 b3 b4 c0 c1 c2 m0 i0 i1 i2 j0 j1 j2 k0 k1 k2 : Nat) (x_text : Nat → Int32) (x_typed : Int32) (t_pips : Nat → Int32) (t_many : Nat → Int32) (t_berths : Int32) (t_goal : Int32) (r_fault : Int32) (r_length : Int32) (r_kind : Int32) (r_start : Int32) (r_next : Int32) (r_number : Int32) (r_dice : Int32) (r_bt : Int32) (r_gt : Int32) (d_pips : Nat → Int32) (d_many : Nat → Int32) (d_berths : Int32) (d_goal : Int32) (a_shown : Nat → Int32) (a_calm : Nat → Int32) (a_windy : Nat → Int32) (a_turns : Nat → Int32) (a_many : Int32) (a_ever : Int32) (c_at : Nat → Int32) (c_past : Nat → Int32) (c_known : Int32) (i_at : Nat → Int32) (i_past : Nat → Int32) (i_known : Int32) (j_at : Nat → Int32) (j_past : Nat → Int32) (j_known : Int32) (x_kept : Nat → Int32) (x_cb : Nat → Int32) (x_ct : Nat → Int32) (x_chalked : Int32) (x_traced : Int64) (p1 : Int32) (r : Int32) (q_x_traced : Int64) (hs : fX4_shipMark a_calm a_windy a_turns a_many c_at x_traced p1 = some (r, q_x_traced)) : Met l yX4_shipMark [Cond.code yX4_shipMark cX4_shipMark 2 (some .int)] (tg_rm 4 89) (tg_Pre D (tw_X D h0 x0 t0 t1 t2 r0 e0 e1 e2 rt z0 b0 b1 b2 b3 b4 c0 c1 c2 m0 i0 i1 i2 j0 j1 j2 k0 k1 k2 x_text x_typed t_pips t_many t_berths t_goal r_fault r_length r_kind r_start r_next r_number r_dice r_bt r_gt d_pips d_many d_berths d_goal a_shown a_calm a_windy a_turns a_many a_ever c_at c_past c_known i_at i_past i_known j_at j_past j_known x_kept x_cb x_ct x_chalked x_traced) [.ref h0, .int p1]) (tg_Qe (some (.int r)) D (tw_X D h0 x0 t0 t1 t2 r0 e0 e1 e2 rt z0 b0 b1 b2 b3 b4 c0 c1 c2 m0 i0 i1 i2 j0 j1 j2 k0 k1 k2 x_text x_typed t_pips t_many t_berths t_goal r_fault r_length r_kind r_start r_next r_number r_dice r_bt r_gt d_pips d_many d_berths d_goal a_shown a_calm a_windy a_turns a_many a_ever c_at c_past c_known i_at i_past i_known j_at j_past j_known x_kept x_cb x_ct x_chalked q_x_traced) (tg_Ad (tw_X D h0 x0 t0 t1 t2 r0 e0 e1 e2 rt z0 b0 b1 b2 b3 b4 c0 c1 c2 m0 i0 i1 i2 j0 j1 j2 k0 k1 k2 x_text x_typed t_pips t_many t_berths t_goal r_fault r_length r_kind r_start r_next r_number r_dice r_bt r_gt d_pips d_many d_berths d_goal a_shown a_calm a_windy a_turns a_many a_ever c_at c_past c_known i_at i_past i_known j_at j_past j_known x_kept x_cb x_ct x_chalked x_traced))) 0 0 (tg_Ad (tw_X D h0 x0 t0 t1 t2 r0 e0 e1 e2 rt z0 b0 b1 b2 b3 b4 c0 c1 c2 m0 i0 i1 i2 j0 j1 j2 k0 k1 k2 x_text x_typed t_pips t_many t_berths t_goal r_fault r_length r_kind r_start r_next r_number r_dice r_bt r_gt d_pips d_many d_berths d_goal a_shown a_calm a_windy a_turns a_many a_ever c_at c_past c_known i_at i_past i_known j_at j_past j_known x_kept x_cb x_ct x_chalked x_traced)) := tg_metEi (by decide) (Nat.le_of_ble_eq_true rfl) (fun X hl0 C V hE => vX4_shipMark l D h0 x0 t0 t1 t2 r0 e0 e1 e2 rt z0 b0 b1 b2 b3 b4 c0 c1 c2 m0 i0 i1 i2 j0 j1 j2 k0 k1 k2 x_text x_typed t_pips t_many t_berths t_goal r_fault r_length r_kind r_start r_next r_number r_dice r_bt r_gt d_pips d_many d_berths d_goal a_shown a_calm a_windy a_turns a_many a_ever c_at c_past c_known i_at i_past i_known j_at j_past j_known x_kept x_cb x_ct x_chalked x_traced p1 X hl0 C V r q_x_traced hs hE)
def fX4_quayMark (c_at : Nat → Int32) (x_traced : Int64) (p1 : Int32) : Option (Int32 × Int64) := tg_nm (x_traced + 100) fun vv1 => tg_b2 (fX4_berthMark vv1 p1) fun rr2 vv3 => tg_b1 (fX1_owned c_at) fun rr5 => tg_b1 (fJ6_bitCount_0f7a4 rr5) fun rr7 => some (rr2 - rr7, vv3)
set_option maxHeartbeats 2000000 in
set_option maxRecDepth 20000 in
theorem vX4_quayMark (l : Launch) (D : tg_D) (h0 x0 t0 t1 t2 r0 e0 e1 e2 rt z0 b0 b1 b2 b3 b4 c0 c1 c2 m0 i0 i1 i2 j0 j1 j2 k0 k1 k2 : Nat) (x_text : Nat → Int32) (x_typed : Int32) (t_pips : Nat → Int32) (t_many : Nat → Int32) (t_berths : Int32) (t_goal : Int32) (r_fault : Int32) (r_length : Int32) (r_kind : Int32) (r_start : Int32) (r_next : Int32) (r_number : Int32) (r_dice : Int32) (r_bt : Int32) (r_gt : Int32) (d_pips : Nat → Int32) (d_many : Nat → Int32) (d_berths : Int32) (d_goal : Int32) (a_shown : Nat → Int32) (a_calm : Nat → Int32) (a_windy : Nat → Int32) (a_turns : Nat → Int32) (a_many : Int32) (a_ever : Int32) (c_at : Nat → Int32) (c_past : Nat → Int32) (c_known : Int32) (i_at : Nat → Int32) (i_past : Nat → Int32) (i_known : Int32) (j_at : Nat → Int32) (j_past : Nat → Int32) (j_known : Int32) (x_kept : Nat → Int32) (x_cb : Nat → Int32) (x_ct : Nat → Int32) (x_chalked : Int32) (x_traced : Int64) (p1 : Int32) (X : tg_X) (hl0 : tg_l X = l) (C : tg_C X D 2 cX4_quayMark RX4 2 41 0 0) (V : tg_V X) (r : Int32) (q_x_traced : Int64) (hs : fX4_quayMark c_at x_traced p1 = some (r, q_x_traced)) (hE : tg_Ei X D 0 0 cX4_quayMark .int r (tw_X D h0 x0 t0 t1 t2 r0 e0 e1 e2 rt z0 b0 b1 b2 b3 b4 c0 c1 c2 m0 i0 i1 i2 j0 j1 j2 k0 k1 k2 x_text x_typed t_pips t_many t_berths t_goal r_fault r_length r_kind r_start r_next r_number r_dice r_bt r_gt d_pips d_many d_berths d_goal a_shown a_calm a_windy a_turns a_many a_ever c_at c_past c_known i_at i_past i_known j_at j_past j_known x_kept x_cb x_ct x_chalked q_x_traced)) : tg_G X D 2 0 0 (tw_X D h0 x0 t0 t1 t2 r0 e0 e1 e2 rt z0 b0 b1 b2 b3 b4 c0 c1 c2 m0 i0 i1 i2 j0 j1 j2 k0 k1 k2 x_text x_typed t_pips t_many t_berths t_goal r_fault r_length r_kind r_start r_next r_number r_dice r_bt r_gt d_pips d_many d_berths d_goal a_shown a_calm a_windy a_turns a_many a_ever c_at c_past c_known i_at i_past i_known j_at j_past j_known x_kept x_cb x_ct x_chalked x_traced) [(0, .ref h0), (1, .int p1)] 0 [] := by
  unfold fX4_quayMark at hs
  refine tg_aload_n C dX4_quayMark_0 rfl 0 rfl ?_
  refine tg_dup C dX4_quayMark_1 rfl ?_
  refine tg_get (v := .long x_traced) C cfX4 0 rfl 11 (by decide) wm_250 rfl dX4_quayMark_2 ?_
  refine tg_ldc2 C wm_651 dX4_quayMark_5 ?_
  refine tg_ladd C dX4_quayMark_8 ?_
  obtain ⟨vv1, evv1, hs⟩ := tg_nm_e hs
  refine tg_topl evv1 ?_
  refine tg_put (ws' := (tw_X D h0 x0 t0 t1 t2 r0 e0 e1 e2 rt z0 b0 b1 b2 b3 b4 c0 c1 c2 m0 i0 i1 i2 j0 j1 j2 k0 k1 k2 x_text x_typed t_pips t_many t_berths t_goal r_fault r_length r_kind r_start r_next r_number r_dice r_bt r_gt d_pips d_many d_berths d_goal a_shown a_calm a_windy a_turns a_many a_ever c_at c_past c_known i_at i_past i_known j_at j_past j_known x_kept x_cb x_ct x_chalked vv1)) C V cfX4 0 rfl 11 (by decide) wm_250 rfl rfl rfl (Nat.le_of_ble_eq_true rfl) rfl dX4_quayMark_9 ?_
  refine tg_aload_n C dX4_quayMark_12 rfl 0 rfl ?_
  refine tg_iload_n C dX4_quayMark_13 rfl 1 rfl ?_
  obtain ⟨rr2, vv3, ee4, hs⟩ := tg_b2_e hs
  refine tg_eVs (ws' := (tw_X D h0 x0 t0 t1 t2 r0 e0 e1 e2 rt z0 b0 b1 b2 b3 b4 c0 c1 c2 m0 i0 i1 i2 j0 j1 j2 k0 k1 k2 x_text x_typed t_pips t_many t_berths t_goal r_fault r_length r_kind r_start r_next r_number r_dice r_bt r_gt d_pips d_many d_berths d_goal a_shown a_calm a_windy a_turns a_many a_ever c_at c_past c_known i_at i_past i_known j_at j_past j_known x_kept x_cb x_ct x_chalked vv3)) (As := [.int p1]) (rest := []) C V hl0 (kX4_berthMark l D h0 x0 t0 t1 t2 r0 e0 e1 e2 rt z0 b0 b1 b2 b3 b4 c0 c1 c2 m0 i0 i1 i2 j0 j1 j2 k0 k1 k2 x_text x_typed t_pips t_many t_berths t_goal r_fault r_length r_kind r_start r_next r_number r_dice r_bt r_gt d_pips d_many d_berths d_goal a_shown a_calm a_windy a_turns a_many a_ever c_at c_past c_known i_at i_past i_known j_at j_past j_known x_kept x_cb x_ct x_chalked vv1 p1 rr2 vv3 ee4) wm_638 meX4_berthMark (by decide) rfl rfl rfl rfl (Nat.le_of_ble_eq_true rfl) rfl dX4_quayMark_14 ?_
  refine tg_aload_n C dX4_quayMark_17 rfl 0 rfl ?_
  refine tg_get (v := .ref c0) C cfX4 0 rfl 5 (by decide) wm_244 rfl dX4_quayMark_18 ?_
  obtain ⟨rr5, ee6, hs⟩ := tg_b1_e hs
  refine tg_pV (As := []) (rest := [.int rr2]) C hl0 (kX1_owned l D c0 c1 c2 t0 t1 t2 c_at c_past c_known t_pips t_many t_berths t_goal rr5 ee6) wm_652 meX1_owned (by decide) [15, 16, 17, 2, 3, 4] rfl (by decide) rfl rfl rfl rfl (Nat.le_of_ble_eq_true rfl) dX4_quayMark_21 ?_
  obtain ⟨rr7, ee8, hs⟩ := tg_b1_e hs
  refine tg_pS (As := [.int rr5]) (rest := [.int rr2]) C hl0 (kJ6_bitCount_0f7a4 l D rr5 rr7 ee8) wm_393 meJ6_bitCount_0f7a4 (by decide) rfl rfl (Nat.le_of_ble_eq_true rfl) dX4_quayMark_24 ?_
  refine tg_isub C dX4_quayMark_27 ?_
  obtain ⟨rfl, rfl⟩ := tg_i2 hs
  exact tg_iret hE rfl dX4_quayMark_28
set_option maxHeartbeats 2000000 in
set_option maxRecDepth 20000 in
theorem kX4_quayMark (l : Launch) (D : tg_D) (h0 x0 t0 t1 t2 r0 e0 e1 e2 rt z0 b0 b1 b2 b3 b4 c0 c1 c2 m0 i0 i1 i2 j0 j1 j2 k0 k1 k2 : Nat) (x_text : Nat → Int32) (x_typed : Int32) (t_pips : Nat → Int32) (t_many : Nat → Int32) (t_berths : Int32) (t_goal : Int32) (r_fault : Int32) (r_length : Int32) (r_kind : Int32) (r_start : Int32) (r_next : Int32) (r_number : Int32) (r_dice : Int32) (r_bt : Int32) (r_gt : Int32) (d_pips : Nat → Int32) (d_many : Nat → Int32) (d_berths : Int32) (d_goal : Int32) (a_shown : Nat → Int32) (a_calm : Nat → Int32) (a_windy : Nat → Int32) (a_turns : Nat → Int32) (a_many : Int32) (a_ever : Int32) (c_at : Nat → Int32) (c_past : Nat → Int32) (c_known : Int32) (i_at : Nat → Int32) (i_past : Nat → Int32) (i_known : Int32) (j_at : Nat → Int32) (j_past : Nat → Int32) (j_known : Int32) (x_kept : Nat → Int32) (x_cb : Nat → Int32) (x_ct : Nat → Int32) (x_chalked : Int32) (x_traced : Int64) (p1 : Int32) (r : Int32) (q_x_traced : Int64) (hs : fX4_quayMark c_at x_traced p1 = some (r, q_x_traced)) : Met l yX4_quayMark [Cond.code yX4_quayMark cX4_quayMark 2 (some .int)] (tg_rm 2 41) (tg_Pre D (tw_X D h0 x0 t0 t1 t2 r0 e0 e1 e2 rt z0 b0 b1 b2 b3 b4 c0 c1 c2 m0 i0 i1 i2 j0 j1 j2 k0 k1 k2 x_text x_typed t_pips t_many t_berths t_goal r_fault r_length r_kind r_start r_next r_number r_dice r_bt r_gt d_pips d_many d_berths d_goal a_shown a_calm a_windy a_turns a_many a_ever c_at c_past c_known i_at i_past i_known j_at j_past j_known x_kept x_cb x_ct x_chalked x_traced) [.ref h0, .int p1]) (tg_Qe (some (.int r)) D (tw_X D h0 x0 t0 t1 t2 r0 e0 e1 e2 rt z0 b0 b1 b2 b3 b4 c0 c1 c2 m0 i0 i1 i2 j0 j1 j2 k0 k1 k2 x_text x_typed t_pips t_many t_berths t_goal r_fault r_length r_kind r_start r_next r_number r_dice r_bt r_gt d_pips d_many d_berths d_goal a_shown a_calm a_windy a_turns a_many a_ever c_at c_past c_known i_at i_past i_known j_at j_past j_known x_kept x_cb x_ct x_chalked q_x_traced) (tg_Ad (tw_X D h0 x0 t0 t1 t2 r0 e0 e1 e2 rt z0 b0 b1 b2 b3 b4 c0 c1 c2 m0 i0 i1 i2 j0 j1 j2 k0 k1 k2 x_text x_typed t_pips t_many t_berths t_goal r_fault r_length r_kind r_start r_next r_number r_dice r_bt r_gt d_pips d_many d_berths d_goal a_shown a_calm a_windy a_turns a_many a_ever c_at c_past c_known i_at i_past i_known j_at j_past j_known x_kept x_cb x_ct x_chalked x_traced))) 0 0 (tg_Ad (tw_X D h0 x0 t0 t1 t2 r0 e0 e1 e2 rt z0 b0 b1 b2 b3 b4 c0 c1 c2 m0 i0 i1 i2 j0 j1 j2 k0 k1 k2 x_text x_typed t_pips t_many t_berths t_goal r_fault r_length r_kind r_start r_next r_number r_dice r_bt r_gt d_pips d_many d_berths d_goal a_shown a_calm a_windy a_turns a_many a_ever c_at c_past c_known i_at i_past i_known j_at j_past j_known x_kept x_cb x_ct x_chalked x_traced)) := tg_metEi (by decide) (Nat.le_of_ble_eq_true rfl) (fun X hl0 C V hE => vX4_quayMark l D h0 x0 t0 t1 t2 r0 e0 e1 e2 rt z0 b0 b1 b2 b3 b4 c0 c1 c2 m0 i0 i1 i2 j0 j1 j2 k0 k1 k2 x_text x_typed t_pips t_many t_berths t_goal r_fault r_length r_kind r_start r_next r_number r_dice r_bt r_gt d_pips d_many d_berths d_goal a_shown a_calm a_windy a_turns a_many a_ever c_at c_past c_known i_at i_past i_known j_at j_past j_known x_kept x_cb x_ct x_chalked x_traced p1 X hl0 C V r q_x_traced hs hE)
def fX4_coalMark (a_calm : Nat → Int32) (a_windy : Nat → Int32) (a_turns : Nat → Int32) (a_many : Int32) (c_at : Nat → Int32) (x_traced : Int64) (p1 : Int32) : Option (Int32 × Int64) := tg_nm (x_traced + 1000) fun vv1 => tg_b2 (fX4_shipMark a_calm a_windy a_turns a_many c_at vv1 p1) fun rr2 vv3 => some (rr2 * 2, vv3)
set_option maxHeartbeats 2000000 in
set_option maxRecDepth 20000 in
theorem vX4_coalMark (l : Launch) (D : tg_D) (h0 x0 t0 t1 t2 r0 e0 e1 e2 rt z0 b0 b1 b2 b3 b4 c0 c1 c2 m0 i0 i1 i2 j0 j1 j2 k0 k1 k2 : Nat) (x_text : Nat → Int32) (x_typed : Int32) (t_pips : Nat → Int32) (t_many : Nat → Int32) (t_berths : Int32) (t_goal : Int32) (r_fault : Int32) (r_length : Int32) (r_kind : Int32) (r_start : Int32) (r_next : Int32) (r_number : Int32) (r_dice : Int32) (r_bt : Int32) (r_gt : Int32) (d_pips : Nat → Int32) (d_many : Nat → Int32) (d_berths : Int32) (d_goal : Int32) (a_shown : Nat → Int32) (a_calm : Nat → Int32) (a_windy : Nat → Int32) (a_turns : Nat → Int32) (a_many : Int32) (a_ever : Int32) (c_at : Nat → Int32) (c_past : Nat → Int32) (c_known : Int32) (i_at : Nat → Int32) (i_past : Nat → Int32) (i_known : Int32) (j_at : Nat → Int32) (j_past : Nat → Int32) (j_known : Int32) (x_kept : Nat → Int32) (x_cb : Nat → Int32) (x_ct : Nat → Int32) (x_chalked : Int32) (x_traced : Int64) (p1 : Int32) (X : tg_X) (hl0 : tg_l X = l) (C : tg_C X D 2 cX4_coalMark RX4 5 110 0 0) (V : tg_V X) (r : Int32) (q_x_traced : Int64) (hs : fX4_coalMark a_calm a_windy a_turns a_many c_at x_traced p1 = some (r, q_x_traced)) (hE : tg_Ei X D 0 0 cX4_coalMark .int r (tw_X D h0 x0 t0 t1 t2 r0 e0 e1 e2 rt z0 b0 b1 b2 b3 b4 c0 c1 c2 m0 i0 i1 i2 j0 j1 j2 k0 k1 k2 x_text x_typed t_pips t_many t_berths t_goal r_fault r_length r_kind r_start r_next r_number r_dice r_bt r_gt d_pips d_many d_berths d_goal a_shown a_calm a_windy a_turns a_many a_ever c_at c_past c_known i_at i_past i_known j_at j_past j_known x_kept x_cb x_ct x_chalked q_x_traced)) : tg_G X D 2 0 0 (tw_X D h0 x0 t0 t1 t2 r0 e0 e1 e2 rt z0 b0 b1 b2 b3 b4 c0 c1 c2 m0 i0 i1 i2 j0 j1 j2 k0 k1 k2 x_text x_typed t_pips t_many t_berths t_goal r_fault r_length r_kind r_start r_next r_number r_dice r_bt r_gt d_pips d_many d_berths d_goal a_shown a_calm a_windy a_turns a_many a_ever c_at c_past c_known i_at i_past i_known j_at j_past j_known x_kept x_cb x_ct x_chalked x_traced) [(0, .ref h0), (1, .int p1)] 0 [] := by
  unfold fX4_coalMark at hs
  refine tg_aload_n C dX4_coalMark_0 rfl 0 rfl ?_
  refine tg_dup C dX4_coalMark_1 rfl ?_
  refine tg_get (v := .long x_traced) C cfX4 0 rfl 11 (by decide) wm_250 rfl dX4_coalMark_2 ?_
  refine tg_ldc2 C wm_657 dX4_coalMark_5 ?_
  refine tg_ladd C dX4_coalMark_8 ?_
  obtain ⟨vv1, evv1, hs⟩ := tg_nm_e hs
  refine tg_topl evv1 ?_
  refine tg_put (ws' := (tw_X D h0 x0 t0 t1 t2 r0 e0 e1 e2 rt z0 b0 b1 b2 b3 b4 c0 c1 c2 m0 i0 i1 i2 j0 j1 j2 k0 k1 k2 x_text x_typed t_pips t_many t_berths t_goal r_fault r_length r_kind r_start r_next r_number r_dice r_bt r_gt d_pips d_many d_berths d_goal a_shown a_calm a_windy a_turns a_many a_ever c_at c_past c_known i_at i_past i_known j_at j_past j_known x_kept x_cb x_ct x_chalked vv1)) C V cfX4 0 rfl 11 (by decide) wm_250 rfl rfl rfl (Nat.le_of_ble_eq_true rfl) rfl dX4_coalMark_9 ?_
  refine tg_aload_n C dX4_coalMark_12 rfl 0 rfl ?_
  refine tg_iload_n C dX4_coalMark_13 rfl 1 rfl ?_
  obtain ⟨rr2, vv3, ee4, hs⟩ := tg_b2_e hs
  refine tg_eVs (ws' := (tw_X D h0 x0 t0 t1 t2 r0 e0 e1 e2 rt z0 b0 b1 b2 b3 b4 c0 c1 c2 m0 i0 i1 i2 j0 j1 j2 k0 k1 k2 x_text x_typed t_pips t_many t_berths t_goal r_fault r_length r_kind r_start r_next r_number r_dice r_bt r_gt d_pips d_many d_berths d_goal a_shown a_calm a_windy a_turns a_many a_ever c_at c_past c_known i_at i_past i_known j_at j_past j_known x_kept x_cb x_ct x_chalked vv3)) (As := [.int p1]) (rest := []) C V hl0 (kX4_shipMark l D h0 x0 t0 t1 t2 r0 e0 e1 e2 rt z0 b0 b1 b2 b3 b4 c0 c1 c2 m0 i0 i1 i2 j0 j1 j2 k0 k1 k2 x_text x_typed t_pips t_many t_berths t_goal r_fault r_length r_kind r_start r_next r_number r_dice r_bt r_gt d_pips d_many d_berths d_goal a_shown a_calm a_windy a_turns a_many a_ever c_at c_past c_known i_at i_past i_known j_at j_past j_known x_kept x_cb x_ct x_chalked vv1 p1 rr2 vv3 ee4) wm_642 meX4_shipMark (by decide) rfl rfl rfl rfl (Nat.le_of_ble_eq_true rfl) rfl dX4_coalMark_14 ?_
  refine tg_iconst (v := 2) C dX4_coalMark_17 (by decide) ?_
  refine tg_imul C dX4_coalMark_18 ?_
  obtain ⟨rfl, rfl⟩ := tg_i2 hs
  exact tg_iret hE rfl dX4_coalMark_19
set_option maxHeartbeats 2000000 in
set_option maxRecDepth 20000 in
theorem kX4_coalMark (l : Launch) (D : tg_D) (h0 x0 t0 t1 t2 r0 e0 e1 e2 rt z0 b0 b1 b2 b3 b4 c0 c1 c2 m0 i0 i1 i2 j0 j1 j2 k0 k1 k2 : Nat) (x_text : Nat → Int32) (x_typed : Int32) (t_pips : Nat → Int32) (t_many : Nat → Int32) (t_berths : Int32) (t_goal : Int32) (r_fault : Int32) (r_length : Int32) (r_kind : Int32) (r_start : Int32) (r_next : Int32) (r_number : Int32) (r_dice : Int32) (r_bt : Int32) (r_gt : Int32) (d_pips : Nat → Int32) (d_many : Nat → Int32) (d_berths : Int32) (d_goal : Int32) (a_shown : Nat → Int32) (a_calm : Nat → Int32) (a_windy : Nat → Int32) (a_turns : Nat → Int32) (a_many : Int32) (a_ever : Int32) (c_at : Nat → Int32) (c_past : Nat → Int32) (c_known : Int32) (i_at : Nat → Int32) (i_past : Nat → Int32) (i_known : Int32) (j_at : Nat → Int32) (j_past : Nat → Int32) (j_known : Int32) (x_kept : Nat → Int32) (x_cb : Nat → Int32) (x_ct : Nat → Int32) (x_chalked : Int32) (x_traced : Int64) (p1 : Int32) (r : Int32) (q_x_traced : Int64) (hs : fX4_coalMark a_calm a_windy a_turns a_many c_at x_traced p1 = some (r, q_x_traced)) : Met l yX4_coalMark [Cond.code yX4_coalMark cX4_coalMark 2 (some .int)] (tg_rm 5 110) (tg_Pre D (tw_X D h0 x0 t0 t1 t2 r0 e0 e1 e2 rt z0 b0 b1 b2 b3 b4 c0 c1 c2 m0 i0 i1 i2 j0 j1 j2 k0 k1 k2 x_text x_typed t_pips t_many t_berths t_goal r_fault r_length r_kind r_start r_next r_number r_dice r_bt r_gt d_pips d_many d_berths d_goal a_shown a_calm a_windy a_turns a_many a_ever c_at c_past c_known i_at i_past i_known j_at j_past j_known x_kept x_cb x_ct x_chalked x_traced) [.ref h0, .int p1]) (tg_Qe (some (.int r)) D (tw_X D h0 x0 t0 t1 t2 r0 e0 e1 e2 rt z0 b0 b1 b2 b3 b4 c0 c1 c2 m0 i0 i1 i2 j0 j1 j2 k0 k1 k2 x_text x_typed t_pips t_many t_berths t_goal r_fault r_length r_kind r_start r_next r_number r_dice r_bt r_gt d_pips d_many d_berths d_goal a_shown a_calm a_windy a_turns a_many a_ever c_at c_past c_known i_at i_past i_known j_at j_past j_known x_kept x_cb x_ct x_chalked q_x_traced) (tg_Ad (tw_X D h0 x0 t0 t1 t2 r0 e0 e1 e2 rt z0 b0 b1 b2 b3 b4 c0 c1 c2 m0 i0 i1 i2 j0 j1 j2 k0 k1 k2 x_text x_typed t_pips t_many t_berths t_goal r_fault r_length r_kind r_start r_next r_number r_dice r_bt r_gt d_pips d_many d_berths d_goal a_shown a_calm a_windy a_turns a_many a_ever c_at c_past c_known i_at i_past i_known j_at j_past j_known x_kept x_cb x_ct x_chalked x_traced))) 0 0 (tg_Ad (tw_X D h0 x0 t0 t1 t2 r0 e0 e1 e2 rt z0 b0 b1 b2 b3 b4 c0 c1 c2 m0 i0 i1 i2 j0 j1 j2 k0 k1 k2 x_text x_typed t_pips t_many t_berths t_goal r_fault r_length r_kind r_start r_next r_number r_dice r_bt r_gt d_pips d_many d_berths d_goal a_shown a_calm a_windy a_turns a_many a_ever c_at c_past c_known i_at i_past i_known j_at j_past j_known x_kept x_cb x_ct x_chalked x_traced)) := tg_metEi (by decide) (Nat.le_of_ble_eq_true rfl) (fun X hl0 C V hE => vX4_coalMark l D h0 x0 t0 t1 t2 r0 e0 e1 e2 rt z0 b0 b1 b2 b3 b4 c0 c1 c2 m0 i0 i1 i2 j0 j1 j2 k0 k1 k2 x_text x_typed t_pips t_many t_berths t_goal r_fault r_length r_kind r_start r_next r_number r_dice r_bt r_gt d_pips d_many d_berths d_goal a_shown a_calm a_windy a_turns a_many a_ever c_at c_past c_known i_at i_past i_known j_at j_past j_known x_kept x_cb x_ct x_chalked x_traced p1 X hl0 C V r q_x_traced hs hE)
def fX4_lentMark (c_at : Nat → Int32) (x_traced : Int64) (p1 : Int32) : Option (Int32 × Int64) := tg_nm (x_traced + 10000) fun vv1 => tg_b2 (fX4_quayMark c_at vv1 p1) fun rr2 vv3 => tg_b1 (fX1_wind c_at) fun rr5 => some (rr2 + (rr5 * 7), vv3)
set_option maxHeartbeats 2000000 in
set_option maxRecDepth 20000 in
theorem vX4_lentMark (l : Launch) (D : tg_D) (h0 x0 t0 t1 t2 r0 e0 e1 e2 rt z0 b0 b1 b2 b3 b4 c0 c1 c2 m0 i0 i1 i2 j0 j1 j2 k0 k1 k2 : Nat) (x_text : Nat → Int32) (x_typed : Int32) (t_pips : Nat → Int32) (t_many : Nat → Int32) (t_berths : Int32) (t_goal : Int32) (r_fault : Int32) (r_length : Int32) (r_kind : Int32) (r_start : Int32) (r_next : Int32) (r_number : Int32) (r_dice : Int32) (r_bt : Int32) (r_gt : Int32) (d_pips : Nat → Int32) (d_many : Nat → Int32) (d_berths : Int32) (d_goal : Int32) (a_shown : Nat → Int32) (a_calm : Nat → Int32) (a_windy : Nat → Int32) (a_turns : Nat → Int32) (a_many : Int32) (a_ever : Int32) (c_at : Nat → Int32) (c_past : Nat → Int32) (c_known : Int32) (i_at : Nat → Int32) (i_past : Nat → Int32) (i_known : Int32) (j_at : Nat → Int32) (j_past : Nat → Int32) (j_known : Int32) (x_kept : Nat → Int32) (x_cb : Nat → Int32) (x_ct : Nat → Int32) (x_chalked : Int32) (x_traced : Int64) (p1 : Int32) (X : tg_X) (hl0 : tg_l X = l) (C : tg_C X D 2 cX4_lentMark RX4 3 62 0 0) (V : tg_V X) (r : Int32) (q_x_traced : Int64) (hs : fX4_lentMark c_at x_traced p1 = some (r, q_x_traced)) (hE : tg_Ei X D 0 0 cX4_lentMark .int r (tw_X D h0 x0 t0 t1 t2 r0 e0 e1 e2 rt z0 b0 b1 b2 b3 b4 c0 c1 c2 m0 i0 i1 i2 j0 j1 j2 k0 k1 k2 x_text x_typed t_pips t_many t_berths t_goal r_fault r_length r_kind r_start r_next r_number r_dice r_bt r_gt d_pips d_many d_berths d_goal a_shown a_calm a_windy a_turns a_many a_ever c_at c_past c_known i_at i_past i_known j_at j_past j_known x_kept x_cb x_ct x_chalked q_x_traced)) : tg_G X D 2 0 0 (tw_X D h0 x0 t0 t1 t2 r0 e0 e1 e2 rt z0 b0 b1 b2 b3 b4 c0 c1 c2 m0 i0 i1 i2 j0 j1 j2 k0 k1 k2 x_text x_typed t_pips t_many t_berths t_goal r_fault r_length r_kind r_start r_next r_number r_dice r_bt r_gt d_pips d_many d_berths d_goal a_shown a_calm a_windy a_turns a_many a_ever c_at c_past c_known i_at i_past i_known j_at j_past j_known x_kept x_cb x_ct x_chalked x_traced) [(0, .ref h0), (1, .int p1)] 0 [] := by
  unfold fX4_lentMark at hs
  refine tg_aload_n C dX4_lentMark_0 rfl 0 rfl ?_
  refine tg_dup C dX4_lentMark_1 rfl ?_
  refine tg_get (v := .long x_traced) C cfX4 0 rfl 11 (by decide) wm_250 rfl dX4_lentMark_2 ?_
  refine tg_ldc2 C wm_662 dX4_lentMark_5 ?_
  refine tg_ladd C dX4_lentMark_8 ?_
  obtain ⟨vv1, evv1, hs⟩ := tg_nm_e hs
  refine tg_topl evv1 ?_
  refine tg_put (ws' := (tw_X D h0 x0 t0 t1 t2 r0 e0 e1 e2 rt z0 b0 b1 b2 b3 b4 c0 c1 c2 m0 i0 i1 i2 j0 j1 j2 k0 k1 k2 x_text x_typed t_pips t_many t_berths t_goal r_fault r_length r_kind r_start r_next r_number r_dice r_bt r_gt d_pips d_many d_berths d_goal a_shown a_calm a_windy a_turns a_many a_ever c_at c_past c_known i_at i_past i_known j_at j_past j_known x_kept x_cb x_ct x_chalked vv1)) C V cfX4 0 rfl 11 (by decide) wm_250 rfl rfl rfl (Nat.le_of_ble_eq_true rfl) rfl dX4_lentMark_9 ?_
  refine tg_aload_n C dX4_lentMark_12 rfl 0 rfl ?_
  refine tg_iload_n C dX4_lentMark_13 rfl 1 rfl ?_
  obtain ⟨rr2, vv3, ee4, hs⟩ := tg_b2_e hs
  refine tg_eVs (ws' := (tw_X D h0 x0 t0 t1 t2 r0 e0 e1 e2 rt z0 b0 b1 b2 b3 b4 c0 c1 c2 m0 i0 i1 i2 j0 j1 j2 k0 k1 k2 x_text x_typed t_pips t_many t_berths t_goal r_fault r_length r_kind r_start r_next r_number r_dice r_bt r_gt d_pips d_many d_berths d_goal a_shown a_calm a_windy a_turns a_many a_ever c_at c_past c_known i_at i_past i_known j_at j_past j_known x_kept x_cb x_ct x_chalked vv3)) (As := [.int p1]) (rest := []) C V hl0 (kX4_quayMark l D h0 x0 t0 t1 t2 r0 e0 e1 e2 rt z0 b0 b1 b2 b3 b4 c0 c1 c2 m0 i0 i1 i2 j0 j1 j2 k0 k1 k2 x_text x_typed t_pips t_many t_berths t_goal r_fault r_length r_kind r_start r_next r_number r_dice r_bt r_gt d_pips d_many d_berths d_goal a_shown a_calm a_windy a_turns a_many a_ever c_at c_past c_known i_at i_past i_known j_at j_past j_known x_kept x_cb x_ct x_chalked vv1 p1 rr2 vv3 ee4) wm_647 meX4_quayMark (by decide) rfl rfl rfl rfl (Nat.le_of_ble_eq_true rfl) rfl dX4_lentMark_14 ?_
  refine tg_aload_n C dX4_lentMark_17 rfl 0 rfl ?_
  refine tg_get (v := .ref c0) C cfX4 0 rfl 5 (by decide) wm_244 rfl dX4_lentMark_18 ?_
  obtain ⟨rr5, ee6, hs⟩ := tg_b1_e hs
  refine tg_pV (As := []) (rest := [.int rr2]) C hl0 (kX1_wind l D c0 c1 c2 t0 t1 t2 c_at c_past c_known t_pips t_many t_berths t_goal rr5 ee6) wm_513 meX1_wind (by decide) [15, 16, 17, 2, 3, 4] rfl (by decide) rfl rfl rfl rfl (Nat.le_of_ble_eq_true rfl) dX4_lentMark_21 ?_
  refine tg_bipush (v := 7) C dX4_lentMark_24 (by decide) ?_
  refine tg_imul C dX4_lentMark_26 ?_
  refine tg_iadd C dX4_lentMark_27 ?_
  obtain ⟨rfl, rfl⟩ := tg_i2 hs
  exact tg_iret hE rfl dX4_lentMark_28
set_option maxHeartbeats 2000000 in
set_option maxRecDepth 20000 in
theorem kX4_lentMark (l : Launch) (D : tg_D) (h0 x0 t0 t1 t2 r0 e0 e1 e2 rt z0 b0 b1 b2 b3 b4 c0 c1 c2 m0 i0 i1 i2 j0 j1 j2 k0 k1 k2 : Nat) (x_text : Nat → Int32) (x_typed : Int32) (t_pips : Nat → Int32) (t_many : Nat → Int32) (t_berths : Int32) (t_goal : Int32) (r_fault : Int32) (r_length : Int32) (r_kind : Int32) (r_start : Int32) (r_next : Int32) (r_number : Int32) (r_dice : Int32) (r_bt : Int32) (r_gt : Int32) (d_pips : Nat → Int32) (d_many : Nat → Int32) (d_berths : Int32) (d_goal : Int32) (a_shown : Nat → Int32) (a_calm : Nat → Int32) (a_windy : Nat → Int32) (a_turns : Nat → Int32) (a_many : Int32) (a_ever : Int32) (c_at : Nat → Int32) (c_past : Nat → Int32) (c_known : Int32) (i_at : Nat → Int32) (i_past : Nat → Int32) (i_known : Int32) (j_at : Nat → Int32) (j_past : Nat → Int32) (j_known : Int32) (x_kept : Nat → Int32) (x_cb : Nat → Int32) (x_ct : Nat → Int32) (x_chalked : Int32) (x_traced : Int64) (p1 : Int32) (r : Int32) (q_x_traced : Int64) (hs : fX4_lentMark c_at x_traced p1 = some (r, q_x_traced)) : Met l yX4_lentMark [Cond.code yX4_lentMark cX4_lentMark 2 (some .int)] (tg_rm 3 62) (tg_Pre D (tw_X D h0 x0 t0 t1 t2 r0 e0 e1 e2 rt z0 b0 b1 b2 b3 b4 c0 c1 c2 m0 i0 i1 i2 j0 j1 j2 k0 k1 k2 x_text x_typed t_pips t_many t_berths t_goal r_fault r_length r_kind r_start r_next r_number r_dice r_bt r_gt d_pips d_many d_berths d_goal a_shown a_calm a_windy a_turns a_many a_ever c_at c_past c_known i_at i_past i_known j_at j_past j_known x_kept x_cb x_ct x_chalked x_traced) [.ref h0, .int p1]) (tg_Qe (some (.int r)) D (tw_X D h0 x0 t0 t1 t2 r0 e0 e1 e2 rt z0 b0 b1 b2 b3 b4 c0 c1 c2 m0 i0 i1 i2 j0 j1 j2 k0 k1 k2 x_text x_typed t_pips t_many t_berths t_goal r_fault r_length r_kind r_start r_next r_number r_dice r_bt r_gt d_pips d_many d_berths d_goal a_shown a_calm a_windy a_turns a_many a_ever c_at c_past c_known i_at i_past i_known j_at j_past j_known x_kept x_cb x_ct x_chalked q_x_traced) (tg_Ad (tw_X D h0 x0 t0 t1 t2 r0 e0 e1 e2 rt z0 b0 b1 b2 b3 b4 c0 c1 c2 m0 i0 i1 i2 j0 j1 j2 k0 k1 k2 x_text x_typed t_pips t_many t_berths t_goal r_fault r_length r_kind r_start r_next r_number r_dice r_bt r_gt d_pips d_many d_berths d_goal a_shown a_calm a_windy a_turns a_many a_ever c_at c_past c_known i_at i_past i_known j_at j_past j_known x_kept x_cb x_ct x_chalked x_traced))) 0 0 (tg_Ad (tw_X D h0 x0 t0 t1 t2 r0 e0 e1 e2 rt z0 b0 b1 b2 b3 b4 c0 c1 c2 m0 i0 i1 i2 j0 j1 j2 k0 k1 k2 x_text x_typed t_pips t_many t_berths t_goal r_fault r_length r_kind r_start r_next r_number r_dice r_bt r_gt d_pips d_many d_berths d_goal a_shown a_calm a_windy a_turns a_many a_ever c_at c_past c_known i_at i_past i_known j_at j_past j_known x_kept x_cb x_ct x_chalked x_traced)) := tg_metEi (by decide) (Nat.le_of_ble_eq_true rfl) (fun X hl0 C V hE => vX4_lentMark l D h0 x0 t0 t1 t2 r0 e0 e1 e2 rt z0 b0 b1 b2 b3 b4 c0 c1 c2 m0 i0 i1 i2 j0 j1 j2 k0 k1 k2 x_text x_typed t_pips t_many t_berths t_goal r_fault r_length r_kind r_start r_next r_number r_dice r_bt r_gt d_pips d_many d_berths d_goal a_shown a_calm a_windy a_turns a_many a_ever c_at c_past c_known i_at i_past i_known j_at j_past j_known x_kept x_cb x_ct x_chalked x_traced p1 X hl0 C V r q_x_traced hs hE)
