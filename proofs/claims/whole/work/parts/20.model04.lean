def fX5_player (m_harbour : Nat → Int32) (m_now : Nat → Int32) (m_one : Int32) (m_two : Int32) (m_three : Int32) (p1 : Int32) (p2 : Int32) : Option (Int32 × Int32 × Int32 × Int32) := tg_b1 (fX5_in (Int32.toInt64 p1) 0 1) fun rr1 => if rr1 = 0 then (some ((-1), m_one, m_two, m_three)) else (tg_b1 (fX5_in (Int32.toInt64 p2) 0 3) fun rr4 => if ¬ rr4 = 0 then (if ¬ p2 = 0 then (if ¬ p2 = 1 then (if ¬ p2 = 2 then (tg_b4 (fX5_race m_harbour m_now m_one m_two m_three p1) fun rr10 vv11 vv12 vv13 => some (rr10, vv11, vv12, vv13)) else (tg_ck (5 + p1) 27 <| some (m_now (Int32.toNatClampNeg (5 + p1)), m_one, m_two, m_three))) else (tg_ck (3 + p1) 27 <| some (m_now (Int32.toNatClampNeg (3 + p1)), m_one, m_two, m_three))) else (tg_b1 (fX5_berths m_harbour m_now p1) fun rr17 => some (rr17, m_one, m_two, m_three))) else (some ((-1), m_one, m_two, m_three)))
set_option maxHeartbeats 2000000 in
set_option maxRecDepth 20000 in
theorem vX5_player (l : Launch) (D : tg_D) (o0 o1 o2 o3 o4 o5 o6 o7 o8 : Nat) (m_text : Nat → Int32) (m_size : Int32) (m_at : Int32) (m_begin : Int32) (m_token : Int32) (m_told : Int32) (m_read : Nat → Int32) (m_harbour : Nat → Int32) (m_now : Nat → Int32) (m_undone : Nat → Int32) (m_undos : Int32) (m_one : Int32) (m_two : Int32) (m_three : Int32) (m_chalks : Int32) (m_cb : Nat → Int32) (m_co : Nat → Int32) (m_trace : Int64) (m_kept : Nat → Int32) (p1 : Int32) (p2 : Int32) (X : tg_X) (hl0 : tg_l X = l) (C : tg_C X D 3 cX5_player RX5 4 88 0 0) (V : tg_V X) (r : Int32) (q_m_one : Int32) (q_m_two : Int32) (q_m_three : Int32) (hs : fX5_player m_harbour m_now m_one m_two m_three p1 p2 = some (r, q_m_one, q_m_two, q_m_three)) (hE : tg_Ei X D 0 0 cX5_player .int r (tw_M D o0 o1 o2 o3 o4 o5 o6 o7 o8 m_text m_size m_at m_begin m_token m_told m_read m_harbour m_now m_undone m_undos q_m_one q_m_two q_m_three m_chalks m_cb m_co m_trace m_kept)) : tg_G X D 3 0 0 (tw_M D o0 o1 o2 o3 o4 o5 o6 o7 o8 m_text m_size m_at m_begin m_token m_told m_read m_harbour m_now m_undone m_undos m_one m_two m_three m_chalks m_cb m_co m_trace m_kept) [(0, .ref o0), (1, .int p1), (2, .int p2)] 0 [] := by
  unfold fX5_player at hs
  refine tg_iload_n C dX5_player_0 rfl 1 rfl ?_
  refine tg_i2l C dX5_player_1 ?_
  refine tg_lconst (v := 0) C dX5_player_2 (by decide) ?_
  refine tg_lconst (v := 1) C dX5_player_3 (by decide) ?_
  obtain ⟨rr1, ee2, hs⟩ := tg_b1_e hs
  refine tg_pS (As := [.long (Int32.toInt64 p1), .long 0, .long 1]) (rest := []) C hl0 (kX5_in l D (Int32.toInt64 p1) 0 1 rr1 ee2) wm_768 meX5_in (by decide) rfl rfl (Nat.le_of_ble_eq_true rfl) dX5_player_4 ?_
  refine tg_if_eq (tgt := 22) C dX5_player_7 (by decide) (fun cc3 => ?_) (fun cc3 => ?_)
  · have hs := tg_t cc3 hs
    refine tg_iconst (v := (-1)) C dX5_player_22 (by decide) ?_
    obtain ⟨rfl, rfl, rfl, rfl⟩ := tg_i4 hs
    exact tg_iret hE rfl dX5_player_23
  · have hs := tg_f cc3 hs
    refine tg_iload_n C dX5_player_10 rfl 2 rfl ?_
    refine tg_i2l C dX5_player_11 ?_
    refine tg_lconst (v := 0) C dX5_player_12 (by decide) ?_
    refine tg_ldc2 C wm_847 dX5_player_13 ?_
    obtain ⟨rr4, ee5, hs⟩ := tg_b1_e hs
    refine tg_pS (As := [.long (Int32.toInt64 p2), .long 0, .long 3]) (rest := []) C hl0 (kX5_in l D (Int32.toInt64 p2) 0 3 rr4 ee5) wm_768 meX5_in (by decide) rfl rfl (Nat.le_of_ble_eq_true rfl) dX5_player_16 ?_
    refine tg_if_ne (tgt := 24) C dX5_player_19 (by decide) (fun cc6 => ?_) (fun cc6 => ?_)
    · have hs := tg_t cc6 hs
      refine tg_iload_n C dX5_player_24 rfl 2 rfl ?_
      refine tg_if_ne (tgt := 36) C dX5_player_25 (by decide) (fun cc7 => ?_) (fun cc7 => ?_)
      · have hs := tg_t cc7 hs
        refine tg_iload_n C dX5_player_36 rfl 2 rfl ?_
        refine tg_iconst (v := 1) C dX5_player_37 (by decide) ?_
        refine tg_icmp_ne (tgt := 52) C dX5_player_38 (by decide) (fun cc8 => ?_) (fun cc8 => ?_)
        · have hs := tg_t cc8 hs
          refine tg_iload_n C dX5_player_52 rfl 2 rfl ?_
          refine tg_iconst (v := 2) C dX5_player_53 (by decide) ?_
          refine tg_icmp_ne (tgt := 68) C dX5_player_54 (by decide) (fun cc9 => ?_) (fun cc9 => ?_)
          · have hs := tg_t cc9 hs
            refine tg_aload_n C dX5_player_68 rfl 0 rfl ?_
            refine tg_iload_n C dX5_player_69 rfl 1 rfl ?_
            obtain ⟨rr10, vv11, vv12, vv13, ee14, hs⟩ := tg_b4_e hs
            refine tg_eVs (ws' := (tw_M D o0 o1 o2 o3 o4 o5 o6 o7 o8 m_text m_size m_at m_begin m_token m_told m_read m_harbour m_now m_undone m_undos vv11 vv12 vv13 m_chalks m_cb m_co m_trace m_kept)) (As := [.int p1]) (rest := []) C V hl0 (kX5_race l D o0 o1 o2 o3 o4 o5 o6 o7 o8 m_text m_size m_at m_begin m_token m_told m_read m_harbour m_now m_undone m_undos m_one m_two m_three m_chalks m_cb m_co m_trace m_kept p1 rr10 vv11 vv12 vv13 ee14) wm_852 meX5_race (by decide) rfl rfl rfl rfl (Nat.le_of_ble_eq_true rfl) rfl dX5_player_70 ?_
            obtain ⟨rfl, rfl, rfl, rfl⟩ := tg_i4 hs
            exact tg_iret hE rfl dX5_player_73
          · have hs := tg_nf cc9 hs
            refine tg_aload_n C dX5_player_57 rfl 0 rfl ?_
            refine tg_get (v := .ref o4) C cfX5 0 rfl 8 (by decide) wm_713 rfl dX5_player_58 ?_
            refine tg_iconst (v := 5) C dX5_player_61 (by decide) ?_
            refine tg_iload_n C dX5_player_62 rfl 1 rfl ?_
            refine tg_iadd C dX5_player_63 ?_
            obtain ⟨hh15, hs⟩ := tg_ck_e hs
            refine tg_iald C 4 0 rfl rfl hh15 dX5_player_64 ?_
            refine tg_goto (tgt := 73) C dX5_player_65 (by decide) ?_
            obtain ⟨rfl, rfl, rfl, rfl⟩ := tg_i4 hs
            exact tg_iret hE rfl dX5_player_73
        · have hs := tg_nf cc8 hs
          refine tg_aload_n C dX5_player_41 rfl 0 rfl ?_
          refine tg_get (v := .ref o4) C cfX5 0 rfl 8 (by decide) wm_713 rfl dX5_player_42 ?_
          refine tg_iconst (v := 3) C dX5_player_45 (by decide) ?_
          refine tg_iload_n C dX5_player_46 rfl 1 rfl ?_
          refine tg_iadd C dX5_player_47 ?_
          obtain ⟨hh16, hs⟩ := tg_ck_e hs
          refine tg_iald C 4 0 rfl rfl hh16 dX5_player_48 ?_
          refine tg_goto (tgt := 73) C dX5_player_49 (by decide) ?_
          obtain ⟨rfl, rfl, rfl, rfl⟩ := tg_i4 hs
          exact tg_iret hE rfl dX5_player_73
      · have hs := tg_nf cc7 hs
        refine tg_aload_n C dX5_player_28 rfl 0 rfl ?_
        refine tg_iload_n C dX5_player_29 rfl 1 rfl ?_
        obtain ⟨rr17, ee18, hs⟩ := tg_b1_e hs
        refine tg_pVs (As := [.int p1]) (rest := []) C hl0 (kX5_berths l D o0 o1 o2 o3 o4 o5 o6 o7 o8 m_text m_size m_at m_begin m_token m_told m_read m_harbour m_now m_undone m_undos m_one m_two m_three m_chalks m_cb m_co m_trace m_kept p1 rr17 ee18) wm_848 meX5_berths (by decide) rfl rfl rfl rfl (Nat.le_of_ble_eq_true rfl) dX5_player_30 ?_
        refine tg_goto (tgt := 73) C dX5_player_33 (by decide) ?_
        obtain ⟨rfl, rfl, rfl, rfl⟩ := tg_i4 hs
        exact tg_iret hE rfl dX5_player_73
    · have hs := tg_nf cc6 hs
      refine tg_iconst (v := (-1)) C dX5_player_22 (by decide) ?_
      obtain ⟨rfl, rfl, rfl, rfl⟩ := tg_i4 hs
      exact tg_iret hE rfl dX5_player_23
set_option maxHeartbeats 2000000 in
set_option maxRecDepth 20000 in
theorem kX5_player (l : Launch) (D : tg_D) (o0 o1 o2 o3 o4 o5 o6 o7 o8 : Nat) (m_text : Nat → Int32) (m_size : Int32) (m_at : Int32) (m_begin : Int32) (m_token : Int32) (m_told : Int32) (m_read : Nat → Int32) (m_harbour : Nat → Int32) (m_now : Nat → Int32) (m_undone : Nat → Int32) (m_undos : Int32) (m_one : Int32) (m_two : Int32) (m_three : Int32) (m_chalks : Int32) (m_cb : Nat → Int32) (m_co : Nat → Int32) (m_trace : Int64) (m_kept : Nat → Int32) (p1 : Int32) (p2 : Int32) (r : Int32) (q_m_one : Int32) (q_m_two : Int32) (q_m_three : Int32) (hs : fX5_player m_harbour m_now m_one m_two m_three p1 p2 = some (r, q_m_one, q_m_two, q_m_three)) : Met l yX5_player [Cond.code yX5_player cX5_player 3 (some .int)] (tg_rm 4 88) (tg_Pre D (tw_M D o0 o1 o2 o3 o4 o5 o6 o7 o8 m_text m_size m_at m_begin m_token m_told m_read m_harbour m_now m_undone m_undos m_one m_two m_three m_chalks m_cb m_co m_trace m_kept) [.ref o0, .int p1, .int p2]) (tg_Qe (some (.int r)) D (tw_M D o0 o1 o2 o3 o4 o5 o6 o7 o8 m_text m_size m_at m_begin m_token m_told m_read m_harbour m_now m_undone m_undos q_m_one q_m_two q_m_three m_chalks m_cb m_co m_trace m_kept) (tg_Ad (tw_M D o0 o1 o2 o3 o4 o5 o6 o7 o8 m_text m_size m_at m_begin m_token m_told m_read m_harbour m_now m_undone m_undos m_one m_two m_three m_chalks m_cb m_co m_trace m_kept))) 0 0 (tg_Ad (tw_M D o0 o1 o2 o3 o4 o5 o6 o7 o8 m_text m_size m_at m_begin m_token m_told m_read m_harbour m_now m_undone m_undos m_one m_two m_three m_chalks m_cb m_co m_trace m_kept)) := tg_metEi (by decide) (Nat.le_of_ble_eq_true rfl) (fun X hl0 C V hE => vX5_player l D o0 o1 o2 o3 o4 o5 o6 o7 o8 m_text m_size m_at m_begin m_token m_told m_read m_harbour m_now m_undone m_undos m_one m_two m_three m_chalks m_cb m_co m_trace m_kept p1 p2 X hl0 C V r q_m_one q_m_two q_m_three hs hE)
def fX5_isDouble (p0 : Int32) (p1 : Int32) (p2 : Int32) : Option (Int32) := tg_b1 (if ¬ p0 = p1 then (some (0 : Int32)) else (some (1 : Int32))) fun (vv2 : Int32) => tg_b1 (if ¬ p1 = p2 then (some (0 : Int32)) else (some (1 : Int32))) fun (vv5 : Int32) => tg_b1 (if ¬ p0 = p2 then (some (0 : Int32)) else (some (1 : Int32))) fun (vv8 : Int32) => if ¬ ((vv2 + vv5) + vv8) = 1 then (some 0) else (some 1)
set_option maxHeartbeats 2000000 in
set_option maxRecDepth 20000 in
theorem vX5_isDouble (l : Launch) (D : tg_D) (p0 : Int32) (p1 : Int32) (p2 : Int32) (X : tg_X) (hl0 : tg_l X = l) (C : tg_C X D 3 cX5_isDouble RX5 0 0 0 0) (r : Int32) (hs : fX5_isDouble p0 p1 p2 = some r) (hE : tg_Ei X D 0 0 cX5_isDouble .boolean r []) : tg_G X D 3 0 0 [] [(0, .int p0), (1, .int p1), (2, .int p2)] 0 [] := by
  unfold fX5_isDouble at hs
  refine tg_iload_n C dX5_isDouble_0 rfl 0 rfl ?_
  refine tg_iload_n C dX5_isDouble_1 rfl 1 rfl ?_
  obtain ⟨vv2, ee13, hs⟩ := tg_b1_e hs
  have JJ3 : tg_G X D 3 0 0 [] [(0, .int p0), (1, .int p1), (2, .int p2)] 10 [.int vv2] := by
    refine tg_iload_n C dX5_isDouble_10 rfl 1 rfl ?_
    refine tg_iload_n C dX5_isDouble_11 rfl 2 rfl ?_
    obtain ⟨vv5, ee12, hs⟩ := tg_b1_e hs
    have JJ6 : tg_G X D 3 0 0 [] [(0, .int p0), (1, .int p1), (2, .int p2)] 20 [.int vv5, .int vv2] := by
      refine tg_iadd C dX5_isDouble_20 ?_
      refine tg_iload_n C dX5_isDouble_21 rfl 0 rfl ?_
      refine tg_iload_n C dX5_isDouble_22 rfl 2 rfl ?_
      obtain ⟨vv8, ee11, hs⟩ := tg_b1_e hs
      have JJ9 : tg_G X D 3 0 0 [] [(0, .int p0), (1, .int p1), (2, .int p2)] 31 [.int vv8, .int (vv2 + vv5)] := by
        refine tg_iadd C dX5_isDouble_31 ?_
        refine tg_iconst (v := 1) C dX5_isDouble_32 (by decide) ?_
        refine tg_icmp_ne (tgt := 40) C dX5_isDouble_33 (by decide) (fun cc10 => ?_) (fun cc10 => ?_)
        · have hs := tg_t cc10 hs
          refine tg_iconst (v := 0) C dX5_isDouble_40 (by decide) ?_
          obtain rfl := Option.some.inj hs
          exact tg_iret hE rfl dX5_isDouble_41
        · have hs := tg_nf cc10 hs
          refine tg_iconst (v := 1) C dX5_isDouble_36 (by decide) ?_
          refine tg_goto (tgt := 41) C dX5_isDouble_37 (by decide) ?_
          obtain rfl := Option.some.inj hs
          exact tg_iret hE rfl dX5_isDouble_41
      have hs := ee11
      clear ee11
      refine tg_icmp_ne (tgt := 30) C dX5_isDouble_23 (by decide) (fun cc7 => ?_) (fun cc7 => ?_)
      · have hs := tg_t cc7 hs
        refine tg_iconst (v := 0) C dX5_isDouble_30 (by decide) ?_
        obtain rfl := Option.some.inj hs
        exact JJ9
      · have hs := tg_nf cc7 hs
        refine tg_iconst (v := 1) C dX5_isDouble_26 (by decide) ?_
        refine tg_goto (tgt := 31) C dX5_isDouble_27 (by decide) ?_
        obtain rfl := Option.some.inj hs
        exact JJ9
    have hs := ee12
    clear ee12
    refine tg_icmp_ne (tgt := 19) C dX5_isDouble_12 (by decide) (fun cc4 => ?_) (fun cc4 => ?_)
    · have hs := tg_t cc4 hs
      refine tg_iconst (v := 0) C dX5_isDouble_19 (by decide) ?_
      obtain rfl := Option.some.inj hs
      exact JJ6
    · have hs := tg_nf cc4 hs
      refine tg_iconst (v := 1) C dX5_isDouble_15 (by decide) ?_
      refine tg_goto (tgt := 20) C dX5_isDouble_16 (by decide) ?_
      obtain rfl := Option.some.inj hs
      exact JJ6
  have hs := ee13
  clear ee13
  refine tg_icmp_ne (tgt := 9) C dX5_isDouble_2 (by decide) (fun cc1 => ?_) (fun cc1 => ?_)
  · have hs := tg_t cc1 hs
    refine tg_iconst (v := 0) C dX5_isDouble_9 (by decide) ?_
    obtain rfl := Option.some.inj hs
    exact JJ3
  · have hs := tg_nf cc1 hs
    refine tg_iconst (v := 1) C dX5_isDouble_5 (by decide) ?_
    refine tg_goto (tgt := 10) C dX5_isDouble_6 (by decide) ?_
    obtain rfl := Option.some.inj hs
    exact JJ3
set_option maxHeartbeats 2000000 in
set_option maxRecDepth 20000 in
theorem kX5_isDouble (l : Launch) (D : tg_D) (p0 : Int32) (p1 : Int32) (p2 : Int32) (r : Int32) (hs : fX5_isDouble p0 p1 p2 = some r) : Met l yX5_isDouble [Cond.code yX5_isDouble cX5_isDouble 3 (some .boolean)] (tg_rm 0 0) (tg_Pre D [] [.int p0, .int p1, .int p2]) (vp_Si (fun r' => r' = r)) 0 0 (fun _ => False) := tg_metI (by decide) (Nat.le_of_ble_eq_true rfl) (fun X hl0 C hE => vX5_isDouble l D p0 p1 p2 X hl0 C r hs hE)
def fX5_open (m_harbour : Nat → Int32) (m_now : Nat → Int32) : Option (Int32) := tg_nm (m_now 2) fun vv1 => if ¬ vv1 = (-9) then (tg_b1 (fX5_opened m_harbour (vv1 / 100) ((vv1 / 10) - (vv1 / 10) / 10 * 10) (vv1 - vv1 / 10 * 10) (m_now 1)) fun rr3 => tg_b1 (fX5_taken m_harbour m_now) fun rr5 => some (rr3 &&& (rr5 ^^^ (-1)))) else (some 0)
set_option maxHeartbeats 2000000 in
set_option maxRecDepth 20000 in
theorem vX5_open (l : Launch) (D : tg_D) (o0 o1 o2 o3 o4 o5 o6 o7 o8 : Nat) (m_text : Nat → Int32) (m_size : Int32) (m_at : Int32) (m_begin : Int32) (m_token : Int32) (m_told : Int32) (m_read : Nat → Int32) (m_harbour : Nat → Int32) (m_now : Nat → Int32) (m_undone : Nat → Int32) (m_undos : Int32) (m_one : Int32) (m_two : Int32) (m_three : Int32) (m_chalks : Int32) (m_cb : Nat → Int32) (m_co : Nat → Int32) (m_trace : Int64) (m_kept : Nat → Int32) (X : tg_X) (hl0 : tg_l X = l) (C : tg_C X D 2 cX5_open RX5 2 43 0 0) (r : Int32) (hs : fX5_open m_harbour m_now = some r) (hE : tg_Ei X D 0 0 cX5_open .int r (tw_M D o0 o1 o2 o3 o4 o5 o6 o7 o8 m_text m_size m_at m_begin m_token m_told m_read m_harbour m_now m_undone m_undos m_one m_two m_three m_chalks m_cb m_co m_trace m_kept)) : tg_G X D 2 0 0 (tw_M D o0 o1 o2 o3 o4 o5 o6 o7 o8 m_text m_size m_at m_begin m_token m_told m_read m_harbour m_now m_undone m_undos m_one m_two m_three m_chalks m_cb m_co m_trace m_kept) [(0, .ref o0)] 0 [] := by
  unfold fX5_open at hs
  refine tg_aload_n C dX5_open_0 rfl 0 rfl ?_
  refine tg_get (v := .ref o4) C cfX5 0 rfl 8 (by decide) wm_713 rfl dX5_open_1 ?_
  refine tg_iconst (v := 2) C dX5_open_4 (by decide) ?_
  refine tg_iald C 4 0 rfl rfl (tg_vin (by decide)) dX5_open_5 ?_
  refine tg_topi (y := m_now 2) rfl ?_
  obtain ⟨vv1, evv1, hs⟩ := tg_nm_e hs
  refine tg_topi evv1 ?_
  refine tg_istore_n (lv' := [(1, .int vv1), (0, .ref o0)]) C dX5_open_6 rfl (by decide) rfl ?_
  refine tg_iload_n C dX5_open_7 rfl 0 rfl ?_
  refine tg_bipush (v := (-9)) C dX5_open_8 (by decide) ?_
  refine tg_icmp_ne (tgt := 17) C dX5_open_10 (by decide) (fun cc2 => ?_) (fun cc2 => ?_)
  · have hs := tg_t cc2 hs
    refine tg_aload_n C dX5_open_17 rfl 1 rfl ?_
    refine tg_iload_n C dX5_open_18 rfl 0 rfl ?_
    refine tg_bipush (v := 100) C dX5_open_19 (by decide) ?_
    refine tg_idiv C (by decide) dX5_open_21 ?_
    refine tg_iload_n C dX5_open_22 rfl 0 rfl ?_
    refine tg_bipush (v := 10) C dX5_open_23 (by decide) ?_
    refine tg_idiv C (by decide) dX5_open_25 ?_
    refine tg_bipush (v := 10) C dX5_open_26 (by decide) ?_
    refine tg_irem C (by decide) dX5_open_28 ?_
    refine tg_iload_n C dX5_open_29 rfl 0 rfl ?_
    refine tg_bipush (v := 10) C dX5_open_30 (by decide) ?_
    refine tg_irem C (by decide) dX5_open_32 ?_
    refine tg_aload_n C dX5_open_33 rfl 1 rfl ?_
    refine tg_get (v := .ref o4) C cfX5 0 rfl 8 (by decide) wm_713 rfl dX5_open_34 ?_
    refine tg_iconst (v := 1) C dX5_open_37 (by decide) ?_
    refine tg_iald C 4 0 rfl rfl (tg_vin (by decide)) dX5_open_38 ?_
    refine tg_topi (y := m_now 1) rfl ?_
    obtain ⟨rr3, ee4, hs⟩ := tg_b1_e hs
    refine tg_pVs (As := [.int (vv1 / 100), .int ((vv1 / 10) - (vv1 / 10) / 10 * 10), .int (vv1 - vv1 / 10 * 10), .int (m_now 1)]) (rest := []) C hl0 (kX5_opened l D o0 o1 o2 o3 o4 o5 o6 o7 o8 m_text m_size m_at m_begin m_token m_told m_read m_harbour m_now m_undone m_undos m_one m_two m_three m_chalks m_cb m_co m_trace m_kept (vv1 / 100) ((vv1 / 10) - (vv1 / 10) / 10 * 10) (vv1 - vv1 / 10 * 10) (m_now 1) rr3 ee4) wm_871 meX5_opened (by decide) rfl rfl rfl rfl (Nat.le_of_ble_eq_true rfl) dX5_open_39 ?_
    refine tg_aload_n C dX5_open_42 rfl 1 rfl ?_
    obtain ⟨rr5, ee6, hs⟩ := tg_b1_e hs
    refine tg_pVs (As := []) (rest := [.int rr3]) C hl0 (kX5_taken l D o0 o1 o2 o3 o4 o5 o6 o7 o8 m_text m_size m_at m_begin m_token m_told m_read m_harbour m_now m_undone m_undos m_one m_two m_three m_chalks m_cb m_co m_trace m_kept rr5 ee6) wm_879 meX5_taken (by decide) rfl rfl rfl rfl (Nat.le_of_ble_eq_true rfl) dX5_open_43 ?_
    refine tg_iconst (v := (-1)) C dX5_open_46 (by decide) ?_
    refine tg_ixor C dX5_open_47 ?_
    refine tg_iand C dX5_open_48 ?_
    obtain rfl := Option.some.inj hs
    exact tg_iret hE rfl dX5_open_49
  · have hs := tg_nf cc2 hs
    refine tg_iconst (v := 0) C dX5_open_13 (by decide) ?_
    refine tg_goto (tgt := 49) C dX5_open_14 (by decide) ?_
    obtain rfl := Option.some.inj hs
    exact tg_iret hE rfl dX5_open_49
set_option maxHeartbeats 2000000 in
set_option maxRecDepth 20000 in
theorem kX5_open (l : Launch) (D : tg_D) (o0 o1 o2 o3 o4 o5 o6 o7 o8 : Nat) (m_text : Nat → Int32) (m_size : Int32) (m_at : Int32) (m_begin : Int32) (m_token : Int32) (m_told : Int32) (m_read : Nat → Int32) (m_harbour : Nat → Int32) (m_now : Nat → Int32) (m_undone : Nat → Int32) (m_undos : Int32) (m_one : Int32) (m_two : Int32) (m_three : Int32) (m_chalks : Int32) (m_cb : Nat → Int32) (m_co : Nat → Int32) (m_trace : Int64) (m_kept : Nat → Int32) (r : Int32) (hs : fX5_open m_harbour m_now = some r) : Met l yX5_open [Cond.code yX5_open cX5_open 2 (some .int)] (tg_rm 2 43) (tg_Pre D (tw_M D o0 o1 o2 o3 o4 o5 o6 o7 o8 m_text m_size m_at m_begin m_token m_told m_read m_harbour m_now m_undone m_undos m_one m_two m_three m_chalks m_cb m_co m_trace m_kept) [.ref o0]) (vp_Si (fun r' => r' = r)) 0 0 (fun _ => False) := tg_metI (by decide) (Nat.le_of_ble_eq_true rfl) (fun X hl0 C hE => vX5_open l D o0 o1 o2 o3 o4 o5 o6 o7 o8 m_text m_size m_at m_begin m_token m_told m_read m_harbour m_now m_undone m_undos m_one m_two m_three m_chalks m_cb m_co m_trace m_kept X hl0 C r hs hE)
def fX5_notes_L12 : Nat → (Nat → Int32) → Int32 → Option ((Nat → Int32) × Int32)
  | 0, _, _ => none
  | fuel + 1, m_undone, n1 => if 324 ≤ n1 then (some (m_undone, n1)) else (tg_ck n1 324 <| tg_nm (m_undone (Int32.toNatClampNeg n1)) fun vv7 => tg_ck (n1 - 27) 324 <| tg_nm (upd m_undone (Int32.toNatClampNeg (n1 - 27)) vv7) fun gg8 => tg_nm (n1 + 1) fun vv10 => fX5_notes_L12 fuel gg8 vv10)
def fX5_notes_L48 (m_now : Nat → Int32) (m_undos : Int32) : Nat → (Nat → Int32) → Int32 → Option ((Nat → Int32) × Int32)
  | 0, _, _ => none
  | fuel + 1, m_undone, n1 => if 27 ≤ n1 then (some (m_undone, n1)) else (tg_ck n1 27 <| tg_nm (m_now (Int32.toNatClampNeg n1)) fun vv16 => tg_ck ((27 * m_undos) + n1) 324 <| tg_nm (upd m_undone (Int32.toNatClampNeg ((27 * m_undos) + n1)) vv16) fun gg17 => tg_nm (n1 + 1) fun vv19 => fX5_notes_L48 m_now m_undos fuel gg17 vv19)
def fX5_notes (m_now : Nat → Int32) (m_undone : Nat → Int32) (m_undos : Int32) : Option ((Nat → Int32) × Int32) := tg_b2 (if ¬ m_undos = 12 then (some (m_undone, m_undos)) else (tg_b2 (fX5_notes_L12 400 m_undone 27) fun vv11 vv12 => some (vv11, (11 : Int32)))) fun (vv2 : Nat → Int32) (vv3 : Int32) => tg_b2 (fX5_notes_L48 m_now vv3 400 vv2 0) fun vv20 vv21 => tg_nm (vv3 + 1) fun vv23 => some (vv20, vv23)
set_option maxHeartbeats 2000000 in
set_option maxRecDepth 20000 in
theorem vX5_notes_L12 (l : Launch) (D : tg_D) (o0 o1 o2 o3 o4 o5 o6 o7 o8 : Nat) (m_text : Nat → Int32) (m_size : Int32) (m_at : Int32) (m_begin : Int32) (m_token : Int32) (m_told : Int32) (m_read : Nat → Int32) (m_harbour : Nat → Int32) (m_now : Nat → Int32) (m_undos : Int32) (m_one : Int32) (m_two : Int32) (m_three : Int32) (m_chalks : Int32) (m_cb : Nat → Int32) (m_co : Nat → Int32) (m_trace : Int64) (m_kept : Nat → Int32) (X : tg_X) (hl0 : tg_l X = l) (C : tg_C X D 2 cX5_notes RX5 0 0 0 0) (V : tg_V X) (o_m_undone : Nat → Int32) (o_n1 : Int32) : ∀ (fuel : Nat) (m_undone : Nat → Int32) (n1 : Int32), fX5_notes_L12 fuel m_undone n1 = some (o_m_undone, o_n1) → tg_G X D 2 0 0 (tw_M D o0 o1 o2 o3 o4 o5 o6 o7 o8 m_text m_size m_at m_begin m_token m_told m_read m_harbour m_now o_m_undone m_undos m_one m_two m_three m_chalks m_cb m_co m_trace m_kept) [(0, .ref o0), (1, .int o_n1)] 40 [] → tg_G X D 2 0 0 (tw_M D o0 o1 o2 o3 o4 o5 o6 o7 o8 m_text m_size m_at m_begin m_token m_told m_read m_harbour m_now m_undone m_undos m_one m_two m_three m_chalks m_cb m_co m_trace m_kept) [(0, .ref o0), (1, .int n1)] 12 [] := by
  intro fuel
  induction fuel with
  | zero =>
    intro m_undone n1 hs _
    rw [fX5_notes_L12] at hs
    cases hs
  | succ fuel ih =>
    intro m_undone n1 hs J
    rw [fX5_notes_L12] at hs
    refine tg_iload_n C dX5_notes_12 rfl 1 rfl ?_
    refine tg_sipush (v := 324) C dX5_notes_13 (by decide) ?_
    refine tg_icmp_ge (tgt := 40) C dX5_notes_16 (by decide) (fun cc5 => ?_) (fun cc5 => ?_)
    · have hs := tg_t cc5 hs
      obtain ⟨rfl, rfl⟩ := tg_i2 hs
      exact J
    · have hs := tg_f cc5 hs
      refine tg_aload_n C dX5_notes_19 rfl 0 rfl ?_
      refine tg_get (v := .ref o5) C cfX5 0 rfl 9 (by decide) wm_714 rfl dX5_notes_20 ?_
      refine tg_iload_n C dX5_notes_23 rfl 1 rfl ?_
      refine tg_bipush (v := 27) C dX5_notes_24 (by decide) ?_
      refine tg_isub C dX5_notes_26 ?_
      refine tg_aload_n C dX5_notes_27 rfl 0 rfl ?_
      refine tg_get (v := .ref o5) C cfX5 0 rfl 9 (by decide) wm_714 rfl dX5_notes_28 ?_
      refine tg_iload_n C dX5_notes_31 rfl 1 rfl ?_
      obtain ⟨hh6, hs⟩ := tg_ck_e hs
      refine tg_iald C 5 0 rfl rfl hh6 dX5_notes_32 ?_
      obtain ⟨vv7, evv7, hs⟩ := tg_nm_e hs
      refine tg_topi evv7 ?_
      obtain ⟨hh9, hs⟩ := tg_ck_e hs
      obtain ⟨gg8, egg8, hs⟩ := tg_nm_e hs
      refine tg_iast (ws' := (tw_M D o0 o1 o2 o3 o4 o5 o6 o7 o8 m_text m_size m_at m_begin m_token m_told m_read m_harbour m_now gg8 m_undos m_one m_two m_three m_chalks m_cb m_co m_trace m_kept)) C V 5 0 rfl rfl hh9 egg8 rfl dX5_notes_33 ?_
      obtain ⟨vv10, evv10, hs⟩ := tg_nm_e hs
      refine tg_iinc (v := vv10) (lv' := [(1, .int vv10), (0, .ref o0)]) C dX5_notes_34 1 rfl (by rw [evv10]; rfl) (by decide) rfl ?_
      refine tg_goto (tgt := 12) C dX5_notes_37 (by decide) ?_
      refine tg_lsub [1, 0] rfl ?_
      exact ih gg8 vv10 hs J
set_option maxHeartbeats 2000000 in
set_option maxRecDepth 20000 in
theorem vX5_notes_L48 (l : Launch) (D : tg_D) (o0 o1 o2 o3 o4 o5 o6 o7 o8 : Nat) (m_text : Nat → Int32) (m_size : Int32) (m_at : Int32) (m_begin : Int32) (m_token : Int32) (m_told : Int32) (m_read : Nat → Int32) (m_harbour : Nat → Int32) (m_now : Nat → Int32) (m_undos : Int32) (m_one : Int32) (m_two : Int32) (m_three : Int32) (m_chalks : Int32) (m_cb : Nat → Int32) (m_co : Nat → Int32) (m_trace : Int64) (m_kept : Nat → Int32) (X : tg_X) (hl0 : tg_l X = l) (C : tg_C X D 2 cX5_notes RX5 0 0 0 0) (V : tg_V X) (o_m_undone : Nat → Int32) (o_n1 : Int32) : ∀ (fuel : Nat) (m_undone : Nat → Int32) (n1 : Int32), fX5_notes_L48 m_now m_undos fuel m_undone n1 = some (o_m_undone, o_n1) → tg_G X D 2 0 0 (tw_M D o0 o1 o2 o3 o4 o5 o6 o7 o8 m_text m_size m_at m_begin m_token m_told m_read m_harbour m_now o_m_undone m_undos m_one m_two m_three m_chalks m_cb m_co m_trace m_kept) [(0, .ref o0), (1, .int o_n1)] 80 [] → tg_G X D 2 0 0 (tw_M D o0 o1 o2 o3 o4 o5 o6 o7 o8 m_text m_size m_at m_begin m_token m_told m_read m_harbour m_now m_undone m_undos m_one m_two m_three m_chalks m_cb m_co m_trace m_kept) [(0, .ref o0), (1, .int n1)] 48 [] := by
  intro fuel
  induction fuel with
  | zero =>
    intro m_undone n1 hs _
    rw [fX5_notes_L48] at hs
    cases hs
  | succ fuel ih =>
    intro m_undone n1 hs J
    rw [fX5_notes_L48] at hs
    refine tg_iload_n C dX5_notes_48 rfl 1 rfl ?_
    refine tg_bipush (v := 27) C dX5_notes_49 (by decide) ?_
    refine tg_icmp_ge (tgt := 80) C dX5_notes_51 (by decide) (fun cc14 => ?_) (fun cc14 => ?_)
    · have hs := tg_t cc14 hs
      obtain ⟨rfl, rfl⟩ := tg_i2 hs
      exact J
    · have hs := tg_f cc14 hs
      refine tg_aload_n C dX5_notes_54 rfl 0 rfl ?_
      refine tg_get (v := .ref o5) C cfX5 0 rfl 9 (by decide) wm_714 rfl dX5_notes_55 ?_
      refine tg_bipush (v := 27) C dX5_notes_58 (by decide) ?_
      refine tg_aload_n C dX5_notes_60 rfl 0 rfl ?_
      refine tg_get (v := .int m_undos) C cfX5 0 rfl 10 (by decide) wm_715 rfl dX5_notes_61 ?_
      refine tg_imul C dX5_notes_64 ?_
      refine tg_iload_n C dX5_notes_65 rfl 1 rfl ?_
      refine tg_iadd C dX5_notes_66 ?_
      refine tg_aload_n C dX5_notes_67 rfl 0 rfl ?_
      refine tg_get (v := .ref o4) C cfX5 0 rfl 8 (by decide) wm_713 rfl dX5_notes_68 ?_
      refine tg_iload_n C dX5_notes_71 rfl 1 rfl ?_
      obtain ⟨hh15, hs⟩ := tg_ck_e hs
      refine tg_iald C 4 0 rfl rfl hh15 dX5_notes_72 ?_
      obtain ⟨vv16, evv16, hs⟩ := tg_nm_e hs
      refine tg_topi evv16 ?_
      obtain ⟨hh18, hs⟩ := tg_ck_e hs
      obtain ⟨gg17, egg17, hs⟩ := tg_nm_e hs
      refine tg_iast (ws' := (tw_M D o0 o1 o2 o3 o4 o5 o6 o7 o8 m_text m_size m_at m_begin m_token m_told m_read m_harbour m_now gg17 m_undos m_one m_two m_three m_chalks m_cb m_co m_trace m_kept)) C V 5 0 rfl rfl hh18 egg17 rfl dX5_notes_73 ?_
      obtain ⟨vv19, evv19, hs⟩ := tg_nm_e hs
      refine tg_iinc (v := vv19) (lv' := [(1, .int vv19), (0, .ref o0)]) C dX5_notes_74 1 rfl (by rw [evv19]; rfl) (by decide) rfl ?_
      refine tg_goto (tgt := 48) C dX5_notes_77 (by decide) ?_
      refine tg_lsub [1, 0] rfl ?_
      exact ih gg17 vv19 hs J
set_option maxHeartbeats 2000000 in
set_option maxRecDepth 20000 in
theorem vX5_notes (l : Launch) (D : tg_D) (o0 o1 o2 o3 o4 o5 o6 o7 o8 : Nat) (m_text : Nat → Int32) (m_size : Int32) (m_at : Int32) (m_begin : Int32) (m_token : Int32) (m_told : Int32) (m_read : Nat → Int32) (m_harbour : Nat → Int32) (m_now : Nat → Int32) (m_undone : Nat → Int32) (m_undos : Int32) (m_one : Int32) (m_two : Int32) (m_three : Int32) (m_chalks : Int32) (m_cb : Nat → Int32) (m_co : Nat → Int32) (m_trace : Int64) (m_kept : Nat → Int32) (X : tg_X) (hl0 : tg_l X = l) (C : tg_C X D 2 cX5_notes RX5 0 0 0 0) (V : tg_V X) (q_m_undone : Nat → Int32) (q_m_undos : Int32) (hs : fX5_notes m_now m_undone m_undos = some (q_m_undone, q_m_undos)) (hE : tg_Ev X D 0 0 cX5_notes (tw_M D o0 o1 o2 o3 o4 o5 o6 o7 o8 m_text m_size m_at m_begin m_token m_told m_read m_harbour m_now q_m_undone q_m_undos m_one m_two m_three m_chalks m_cb m_co m_trace m_kept)) : tg_G X D 2 0 0 (tw_M D o0 o1 o2 o3 o4 o5 o6 o7 o8 m_text m_size m_at m_begin m_token m_told m_read m_harbour m_now m_undone m_undos m_one m_two m_three m_chalks m_cb m_co m_trace m_kept) [(0, .ref o0)] 0 [] := by
  unfold fX5_notes at hs
  refine tg_aload_n C dX5_notes_0 rfl 0 rfl ?_
  refine tg_get (v := .int m_undos) C cfX5 0 rfl 10 (by decide) wm_715 rfl dX5_notes_1 ?_
  refine tg_bipush (v := 12) C dX5_notes_4 (by decide) ?_
  obtain ⟨vv2, vv3, ee24, hs⟩ := tg_b2_e hs
  have JJ4 : tg_G X D 2 0 0 (tw_M D o0 o1 o2 o3 o4 o5 o6 o7 o8 m_text m_size m_at m_begin m_token m_told m_read m_harbour m_now vv2 vv3 m_one m_two m_three m_chalks m_cb m_co m_trace m_kept) [(0, .ref o0)] 46 [] := by
    refine tg_iconst (v := 0) C dX5_notes_46 (by decide) ?_
    refine tg_istore_n (lv' := [(1, .int 0), (0, .ref o0)]) C dX5_notes_47 rfl (by decide) rfl ?_
    refine tg_lsub [1, 0] rfl ?_
    obtain ⟨vv20, vv21, ee22, hs⟩ := tg_b2_e hs
    refine vX5_notes_L48 l D o0 o1 o2 o3 o4 o5 o6 o7 o8 m_text m_size m_at m_begin m_token m_told m_read m_harbour m_now vv3 m_one m_two m_three m_chalks m_cb m_co m_trace m_kept X hl0 C V vv20 vv21 400 vv2 0 ee22 ?_
    refine tg_aload_n C dX5_notes_80 rfl 0 rfl ?_
    refine tg_dup C dX5_notes_81 rfl ?_
    refine tg_get (v := .int vv3) C cfX5 0 rfl 10 (by decide) wm_715 rfl dX5_notes_82 ?_
    refine tg_iconst (v := 1) C dX5_notes_85 (by decide) ?_
    refine tg_iadd C dX5_notes_86 ?_
    obtain ⟨vv23, evv23, hs⟩ := tg_nm_e hs
    refine tg_topi evv23 ?_
    refine tg_put (ws' := (tw_M D o0 o1 o2 o3 o4 o5 o6 o7 o8 m_text m_size m_at m_begin m_token m_told m_read m_harbour m_now vv20 vv23 m_one m_two m_three m_chalks m_cb m_co m_trace m_kept)) C V cfX5 0 rfl 10 (by decide) wm_715 rfl rfl rfl (Nat.le_of_ble_eq_true rfl) rfl dX5_notes_87 ?_
    obtain ⟨rfl, rfl⟩ := tg_i2 hs
    exact tg_vret hE dX5_notes_90
  have hs := ee24
  clear ee24
  refine tg_icmp_ne (tgt := 46) C dX5_notes_6 (by decide) (fun cc1 => ?_) (fun cc1 => ?_)
  · have hs := tg_t cc1 hs
    obtain ⟨rfl, rfl⟩ := tg_i2 hs
    exact JJ4
  · have hs := tg_nf cc1 hs
    refine tg_bipush (v := 27) C dX5_notes_9 (by decide) ?_
    refine tg_istore_n (lv' := [(1, .int 27), (0, .ref o0)]) C dX5_notes_11 rfl (by decide) rfl ?_
    refine tg_lsub [1, 0] rfl ?_
    obtain ⟨vv11, vv12, ee13, hs⟩ := tg_b2_e hs
    refine vX5_notes_L12 l D o0 o1 o2 o3 o4 o5 o6 o7 o8 m_text m_size m_at m_begin m_token m_told m_read m_harbour m_now m_undos m_one m_two m_three m_chalks m_cb m_co m_trace m_kept X hl0 C V vv11 vv12 400 m_undone 27 ee13 ?_
    refine tg_aload_n C dX5_notes_40 rfl 0 rfl ?_
    refine tg_bipush (v := 11) C dX5_notes_41 (by decide) ?_
    refine tg_put (ws' := (tw_M D o0 o1 o2 o3 o4 o5 o6 o7 o8 m_text m_size m_at m_begin m_token m_told m_read m_harbour m_now vv11 11 m_one m_two m_three m_chalks m_cb m_co m_trace m_kept)) C V cfX5 0 rfl 10 (by decide) wm_715 rfl rfl rfl (Nat.le_of_ble_eq_true rfl) rfl dX5_notes_43 ?_
    obtain ⟨rfl, rfl⟩ := tg_i2 hs
    refine tg_lsub [0] rfl ?_
    exact JJ4
set_option maxHeartbeats 2000000 in
set_option maxRecDepth 20000 in
theorem kX5_notes (l : Launch) (D : tg_D) (o0 o1 o2 o3 o4 o5 o6 o7 o8 : Nat) (m_text : Nat → Int32) (m_size : Int32) (m_at : Int32) (m_begin : Int32) (m_token : Int32) (m_told : Int32) (m_read : Nat → Int32) (m_harbour : Nat → Int32) (m_now : Nat → Int32) (m_undone : Nat → Int32) (m_undos : Int32) (m_one : Int32) (m_two : Int32) (m_three : Int32) (m_chalks : Int32) (m_cb : Nat → Int32) (m_co : Nat → Int32) (m_trace : Int64) (m_kept : Nat → Int32) (q_m_undone : Nat → Int32) (q_m_undos : Int32) (hs : fX5_notes m_now m_undone m_undos = some (q_m_undone, q_m_undos)) : Met l yX5_notes [Cond.code yX5_notes cX5_notes 2 none] (tg_rm 0 0) (tg_Pre D (tw_M D o0 o1 o2 o3 o4 o5 o6 o7 o8 m_text m_size m_at m_begin m_token m_told m_read m_harbour m_now m_undone m_undos m_one m_two m_three m_chalks m_cb m_co m_trace m_kept) [.ref o0]) (tg_Qe none D (tw_M D o0 o1 o2 o3 o4 o5 o6 o7 o8 m_text m_size m_at m_begin m_token m_told m_read m_harbour m_now q_m_undone q_m_undos m_one m_two m_three m_chalks m_cb m_co m_trace m_kept) (tg_Ad (tw_M D o0 o1 o2 o3 o4 o5 o6 o7 o8 m_text m_size m_at m_begin m_token m_told m_read m_harbour m_now m_undone m_undos m_one m_two m_three m_chalks m_cb m_co m_trace m_kept))) 0 0 (tg_Ad (tw_M D o0 o1 o2 o3 o4 o5 o6 o7 o8 m_text m_size m_at m_begin m_token m_told m_read m_harbour m_now m_undone m_undos m_one m_two m_three m_chalks m_cb m_co m_trace m_kept)) := tg_metEv (by decide) (Nat.le_of_ble_eq_true rfl) (fun X hl0 C V hE => vX5_notes l D o0 o1 o2 o3 o4 o5 o6 o7 o8 m_text m_size m_at m_begin m_token m_told m_read m_harbour m_now m_undone m_undos m_one m_two m_three m_chalks m_cb m_co m_trace m_kept X hl0 C V q_m_undone q_m_undos hs hE)
def fX5_tides (m_now : Nat → Int32) (p1 : Int32) (p2 : Int32) : Option ((Nat → Int32)) := tg_ck (3 + p1) 27 <| tg_nm ((m_now (Int32.toNatClampNeg (3 + p1))) + p2) fun vv2 => tg_b1 (if vv2 ≤ 999 then (some vv2) else (some (999 : Int32))) fun (vv4 : Int32) => tg_ck (3 + p1) 27 <| tg_nm (upd m_now (Int32.toNatClampNeg (3 + p1)) vv4) fun gg6 => some gg6
set_option maxHeartbeats 2000000 in
set_option maxRecDepth 20000 in
theorem vX5_tides (l : Launch) (D : tg_D) (o0 o1 o2 o3 o4 o5 o6 o7 o8 : Nat) (m_text : Nat → Int32) (m_size : Int32) (m_at : Int32) (m_begin : Int32) (m_token : Int32) (m_told : Int32) (m_read : Nat → Int32) (m_harbour : Nat → Int32) (m_now : Nat → Int32) (m_undone : Nat → Int32) (m_undos : Int32) (m_one : Int32) (m_two : Int32) (m_three : Int32) (m_chalks : Int32) (m_cb : Nat → Int32) (m_co : Nat → Int32) (m_trace : Int64) (m_kept : Nat → Int32) (p1 : Int32) (p2 : Int32) (X : tg_X) (hl0 : tg_l X = l) (C : tg_C X D 4 cX5_tides RX5 0 0 0 0) (V : tg_V X) (q_m_now : Nat → Int32) (hs : fX5_tides m_now p1 p2 = some q_m_now) (hE : tg_Ev X D 0 0 cX5_tides (tw_M D o0 o1 o2 o3 o4 o5 o6 o7 o8 m_text m_size m_at m_begin m_token m_told m_read m_harbour q_m_now m_undone m_undos m_one m_two m_three m_chalks m_cb m_co m_trace m_kept)) : tg_G X D 4 0 0 (tw_M D o0 o1 o2 o3 o4 o5 o6 o7 o8 m_text m_size m_at m_begin m_token m_told m_read m_harbour m_now m_undone m_undos m_one m_two m_three m_chalks m_cb m_co m_trace m_kept) [(0, .ref o0), (1, .int p1), (2, .int p2)] 0 [] := by
  unfold fX5_tides at hs
  refine tg_aload_n C dX5_tides_0 rfl 0 rfl ?_
  refine tg_get (v := .ref o4) C cfX5 0 rfl 8 (by decide) wm_713 rfl dX5_tides_1 ?_
  refine tg_iconst (v := 3) C dX5_tides_4 (by decide) ?_
  refine tg_iload_n C dX5_tides_5 rfl 1 rfl ?_
  refine tg_iadd C dX5_tides_6 ?_
  obtain ⟨hh1, hs⟩ := tg_ck_e hs
  refine tg_iald C 4 0 rfl rfl hh1 dX5_tides_7 ?_
  refine tg_iload_n C dX5_tides_8 rfl 2 rfl ?_
  refine tg_iadd C dX5_tides_9 ?_
  obtain ⟨vv2, evv2, hs⟩ := tg_nm_e hs
  refine tg_topi evv2 ?_
  refine tg_istore_n (lv' := [(3, .int vv2), (0, .ref o0), (1, .int p1), (2, .int p2)]) C dX5_tides_10 rfl (by decide) rfl ?_
  refine tg_aload_n C dX5_tides_11 rfl 1 rfl ?_
  refine tg_get (v := .ref o4) C cfX5 0 rfl 8 (by decide) wm_713 rfl dX5_tides_12 ?_
  refine tg_iconst (v := 3) C dX5_tides_15 (by decide) ?_
  refine tg_iload_n C dX5_tides_16 rfl 2 rfl ?_
  refine tg_iadd C dX5_tides_17 ?_
  refine tg_iload_n C dX5_tides_18 rfl 0 rfl ?_
  refine tg_sipush (v := 999) C dX5_tides_19 (by decide) ?_
  obtain ⟨vv4, ee8, hs⟩ := tg_b1_e hs
  have JJ5 : tg_G X D 4 0 0 (tw_M D o0 o1 o2 o3 o4 o5 o6 o7 o8 m_text m_size m_at m_begin m_token m_told m_read m_harbour m_now m_undone m_undos m_one m_two m_three m_chalks m_cb m_co m_trace m_kept) [(0, .ref o0), (1, .int p1), (2, .int p2), (3, .int vv2)] 32 [.int vv4, .int (3 + p1), .ref o4] := by
    obtain ⟨hh7, hs⟩ := tg_ck_e hs
    obtain ⟨gg6, egg6, hs⟩ := tg_nm_e hs
    refine tg_iast (ws' := (tw_M D o0 o1 o2 o3 o4 o5 o6 o7 o8 m_text m_size m_at m_begin m_token m_told m_read m_harbour gg6 m_undone m_undos m_one m_two m_three m_chalks m_cb m_co m_trace m_kept)) C V 4 0 rfl rfl hh7 egg6 rfl dX5_tides_32 ?_
    obtain rfl := Option.some.inj hs
    exact tg_vret hE dX5_tides_33
  have hs := ee8
  clear ee8
  refine tg_icmp_le (tgt := 31) C dX5_tides_22 (by decide) (fun cc3 => ?_) (fun cc3 => ?_)
  · have hs := tg_t cc3 hs
    refine tg_iload_n C dX5_tides_31 rfl 0 rfl ?_
    obtain rfl := Option.some.inj hs
    refine tg_lsub [1, 2, 3, 0] rfl ?_
    exact JJ5
  · have hs := tg_f cc3 hs
    refine tg_sipush (v := 999) C dX5_tides_25 (by decide) ?_
    refine tg_goto (tgt := 32) C dX5_tides_28 (by decide) ?_
    obtain rfl := Option.some.inj hs
    refine tg_lsub [1, 2, 3, 0] rfl ?_
    exact JJ5
set_option maxHeartbeats 2000000 in
set_option maxRecDepth 20000 in
theorem kX5_tides (l : Launch) (D : tg_D) (o0 o1 o2 o3 o4 o5 o6 o7 o8 : Nat) (m_text : Nat → Int32) (m_size : Int32) (m_at : Int32) (m_begin : Int32) (m_token : Int32) (m_told : Int32) (m_read : Nat → Int32) (m_harbour : Nat → Int32) (m_now : Nat → Int32) (m_undone : Nat → Int32) (m_undos : Int32) (m_one : Int32) (m_two : Int32) (m_three : Int32) (m_chalks : Int32) (m_cb : Nat → Int32) (m_co : Nat → Int32) (m_trace : Int64) (m_kept : Nat → Int32) (p1 : Int32) (p2 : Int32) (q_m_now : Nat → Int32) (hs : fX5_tides m_now p1 p2 = some q_m_now) : Met l yX5_tides [Cond.code yX5_tides cX5_tides 4 none] (tg_rm 0 0) (tg_Pre D (tw_M D o0 o1 o2 o3 o4 o5 o6 o7 o8 m_text m_size m_at m_begin m_token m_told m_read m_harbour m_now m_undone m_undos m_one m_two m_three m_chalks m_cb m_co m_trace m_kept) [.ref o0, .int p1, .int p2]) (tg_Qe none D (tw_M D o0 o1 o2 o3 o4 o5 o6 o7 o8 m_text m_size m_at m_begin m_token m_told m_read m_harbour q_m_now m_undone m_undos m_one m_two m_three m_chalks m_cb m_co m_trace m_kept) (tg_Ad (tw_M D o0 o1 o2 o3 o4 o5 o6 o7 o8 m_text m_size m_at m_begin m_token m_told m_read m_harbour m_now m_undone m_undos m_one m_two m_three m_chalks m_cb m_co m_trace m_kept))) 0 0 (tg_Ad (tw_M D o0 o1 o2 o3 o4 o5 o6 o7 o8 m_text m_size m_at m_begin m_token m_told m_read m_harbour m_now m_undone m_undos m_one m_two m_three m_chalks m_cb m_co m_trace m_kept)) := tg_metEv (by decide) (Nat.le_of_ble_eq_true rfl) (fun X hl0 C V hE => vX5_tides l D o0 o1 o2 o3 o4 o5 o6 o7 o8 m_text m_size m_at m_begin m_token m_told m_read m_harbour m_now m_undone m_undos m_one m_two m_three m_chalks m_cb m_co m_trace m_kept p1 p2 X hl0 C V q_m_now hs hE)
def fX5_isWon (m_now : Nat → Int32) : Option (Int32) := if (m_now 7) = (-9) then (some 0) else (some 1)
set_option maxHeartbeats 2000000 in
set_option maxRecDepth 20000 in
theorem vX5_isWon (l : Launch) (D : tg_D) (o0 o1 o2 o3 o4 o5 o6 o7 o8 : Nat) (m_text : Nat → Int32) (m_size : Int32) (m_at : Int32) (m_begin : Int32) (m_token : Int32) (m_told : Int32) (m_read : Nat → Int32) (m_harbour : Nat → Int32) (m_now : Nat → Int32) (m_undone : Nat → Int32) (m_undos : Int32) (m_one : Int32) (m_two : Int32) (m_three : Int32) (m_chalks : Int32) (m_cb : Nat → Int32) (m_co : Nat → Int32) (m_trace : Int64) (m_kept : Nat → Int32) (X : tg_X) (hl0 : tg_l X = l) (C : tg_C X D 1 cX5_isWon RX5 0 0 0 0) (r : Int32) (hs : fX5_isWon m_now = some r) (hE : tg_Ei X D 0 0 cX5_isWon .boolean r (tw_M D o0 o1 o2 o3 o4 o5 o6 o7 o8 m_text m_size m_at m_begin m_token m_told m_read m_harbour m_now m_undone m_undos m_one m_two m_three m_chalks m_cb m_co m_trace m_kept)) : tg_G X D 1 0 0 (tw_M D o0 o1 o2 o3 o4 o5 o6 o7 o8 m_text m_size m_at m_begin m_token m_told m_read m_harbour m_now m_undone m_undos m_one m_two m_three m_chalks m_cb m_co m_trace m_kept) [(0, .ref o0)] 0 [] := by
  unfold fX5_isWon at hs
  refine tg_aload_n C dX5_isWon_0 rfl 0 rfl ?_
  refine tg_get (v := .ref o4) C cfX5 0 rfl 8 (by decide) wm_713 rfl dX5_isWon_1 ?_
  refine tg_bipush (v := 7) C dX5_isWon_4 (by decide) ?_
  refine tg_iald C 4 0 rfl rfl (tg_vin (by decide)) dX5_isWon_6 ?_
  refine tg_topi (y := m_now 7) rfl ?_
  refine tg_bipush (v := (-9)) C dX5_isWon_7 (by decide) ?_
  refine tg_icmp_eq (tgt := 16) C dX5_isWon_9 (by decide) (fun cc1 => ?_) (fun cc1 => ?_)
  · have hs := tg_t cc1 hs
    refine tg_iconst (v := 0) C dX5_isWon_16 (by decide) ?_
    obtain rfl := Option.some.inj hs
    exact tg_iret hE rfl dX5_isWon_17
  · have hs := tg_f cc1 hs
    refine tg_iconst (v := 1) C dX5_isWon_12 (by decide) ?_
    refine tg_goto (tgt := 17) C dX5_isWon_13 (by decide) ?_
    obtain rfl := Option.some.inj hs
    exact tg_iret hE rfl dX5_isWon_17
set_option maxHeartbeats 2000000 in
set_option maxRecDepth 20000 in
theorem kX5_isWon (l : Launch) (D : tg_D) (o0 o1 o2 o3 o4 o5 o6 o7 o8 : Nat) (m_text : Nat → Int32) (m_size : Int32) (m_at : Int32) (m_begin : Int32) (m_token : Int32) (m_told : Int32) (m_read : Nat → Int32) (m_harbour : Nat → Int32) (m_now : Nat → Int32) (m_undone : Nat → Int32) (m_undos : Int32) (m_one : Int32) (m_two : Int32) (m_three : Int32) (m_chalks : Int32) (m_cb : Nat → Int32) (m_co : Nat → Int32) (m_trace : Int64) (m_kept : Nat → Int32) (r : Int32) (hs : fX5_isWon m_now = some r) : Met l yX5_isWon [Cond.code yX5_isWon cX5_isWon 1 (some .boolean)] (tg_rm 0 0) (tg_Pre D (tw_M D o0 o1 o2 o3 o4 o5 o6 o7 o8 m_text m_size m_at m_begin m_token m_told m_read m_harbour m_now m_undone m_undos m_one m_two m_three m_chalks m_cb m_co m_trace m_kept) [.ref o0]) (vp_Si (fun r' => r' = r)) 0 0 (fun _ => False) := tg_metI (by decide) (Nat.le_of_ble_eq_true rfl) (fun X hl0 C hE => vX5_isWon l D o0 o1 o2 o3 o4 o5 o6 o7 o8 m_text m_size m_at m_begin m_token m_told m_read m_harbour m_now m_undone m_undos m_one m_two m_three m_chalks m_cb m_co m_trace m_kept X hl0 C r hs hE)
def fX5_throwsDice (m_harbour : Nat → Int32) (m_now : Nat → Int32) (m_undone : Nat → Int32) (m_undos : Int32) (p1 : Int32) (p2 : Int32) (p3 : Int32) : Option (Int32 × (Nat → Int32) × (Nat → Int32) × Int32) := tg_b1 (fX5_isFace m_harbour 0 p1) fun rr1 => if rr1 = 0 then (some ((-1), m_now, m_undone, m_undos)) else (tg_b1 (fX5_isFace m_harbour 1 p2) fun rr4 => if rr4 = 0 then (some ((-1), m_now, m_undone, m_undos)) else (tg_b1 (fX5_isFace m_harbour 2 p3) fun rr7 => if ¬ rr7 = 0 then (if ¬ (m_now 2) = (-9) then (some ((-2), m_now, m_undone, m_undos)) else (tg_b1 (fX5_isWon m_now) fun rr11 => if rr11 = 0 then (tg_b2 (fX5_notes m_now m_undone m_undos) fun gg14 vv15 => tg_nm (((100 * p1) + (10 * p2)) + p3) fun vv17 => tg_nm (upd m_now 2 vv17) fun gg18 => tg_b1 (fX5_isDouble p1 p2 p3) fun rr19 => tg_b1 (if rr19 = 0 then (some (gg18 1)) else (some (1 - (gg18 1)))) fun (vv22 : Int32) => tg_nm (upd gg18 1 vv22) fun gg24 => tg_b1 (if ¬ p1 = p2 then (tg_ck (5 + (gg24 0)) 27 <| some (gg24 (Int32.toNatClampNeg (5 + (gg24 0))))) else (if ¬ p2 = p3 then (tg_ck (5 + (gg24 0)) 27 <| some (gg24 (Int32.toNatClampNeg (5 + (gg24 0))))) else (some (1 : Int32)))) fun (vv26 : Int32) => tg_ck (5 + (gg24 0)) 27 <| tg_nm (upd gg24 (Int32.toNatClampNeg (5 + (gg24 0))) vv26) fun gg31 => tg_b1 (fX5_open m_harbour gg31) fun rr33 => some (rr33, gg31, gg14, vv15)) else (some ((-2), m_now, m_undone, m_undos)))) else (some ((-1), m_now, m_undone, m_undos))))
set_option maxHeartbeats 2000000 in
set_option maxRecDepth 20000 in
theorem vX5_throwsDice (l : Launch) (D : tg_D) (o0 o1 o2 o3 o4 o5 o6 o7 o8 : Nat) (m_text : Nat → Int32) (m_size : Int32) (m_at : Int32) (m_begin : Int32) (m_token : Int32) (m_told : Int32) (m_read : Nat → Int32) (m_harbour : Nat → Int32) (m_now : Nat → Int32) (m_undone : Nat → Int32) (m_undos : Int32) (m_one : Int32) (m_two : Int32) (m_three : Int32) (m_chalks : Int32) (m_cb : Nat → Int32) (m_co : Nat → Int32) (m_trace : Int64) (m_kept : Nat → Int32) (p1 : Int32) (p2 : Int32) (p3 : Int32) (X : tg_X) (hl0 : tg_l X = l) (C : tg_C X D 4 cX5_throwsDice RX5 3 64 0 0) (V : tg_V X) (r : Int32) (q_m_now : Nat → Int32) (q_m_undone : Nat → Int32) (q_m_undos : Int32) (hs : fX5_throwsDice m_harbour m_now m_undone m_undos p1 p2 p3 = some (r, q_m_now, q_m_undone, q_m_undos)) (hE : tg_Ei X D 0 0 cX5_throwsDice .int r (tw_M D o0 o1 o2 o3 o4 o5 o6 o7 o8 m_text m_size m_at m_begin m_token m_told m_read m_harbour q_m_now q_m_undone q_m_undos m_one m_two m_three m_chalks m_cb m_co m_trace m_kept)) : tg_G X D 4 0 0 (tw_M D o0 o1 o2 o3 o4 o5 o6 o7 o8 m_text m_size m_at m_begin m_token m_told m_read m_harbour m_now m_undone m_undos m_one m_two m_three m_chalks m_cb m_co m_trace m_kept) [(0, .ref o0), (1, .int p1), (2, .int p2), (3, .int p3)] 0 [] := by
  unfold fX5_throwsDice at hs
  refine tg_aload_n C dX5_throwsDice_0 rfl 0 rfl ?_
  refine tg_iconst (v := 0) C dX5_throwsDice_1 (by decide) ?_
  refine tg_iload_n C dX5_throwsDice_2 rfl 1 rfl ?_
  obtain ⟨rr1, ee2, hs⟩ := tg_b1_e hs
  refine tg_pVs (As := [.int 0, .int p1]) (rest := []) C hl0 (kX5_isFace l D o0 o1 o2 o3 o4 o5 o6 o7 o8 m_text m_size m_at m_begin m_token m_told m_read m_harbour m_now m_undone m_undos m_one m_two m_three m_chalks m_cb m_co m_trace m_kept 0 p1 rr1 ee2) wm_887 meX5_isFace (by decide) rfl rfl rfl rfl (Nat.le_of_ble_eq_true rfl) dX5_throwsDice_3 ?_
  refine tg_if_eq (tgt := 27) C dX5_throwsDice_6 (by decide) (fun cc3 => ?_) (fun cc3 => ?_)
  · have hs := tg_t cc3 hs
    refine tg_iconst (v := (-1)) C dX5_throwsDice_27 (by decide) ?_
    obtain ⟨rfl, rfl, rfl, rfl⟩ := tg_i4 hs
    exact tg_iret hE rfl dX5_throwsDice_28
  · have hs := tg_f cc3 hs
    refine tg_aload_n C dX5_throwsDice_9 rfl 0 rfl ?_
    refine tg_iconst (v := 1) C dX5_throwsDice_10 (by decide) ?_
    refine tg_iload_n C dX5_throwsDice_11 rfl 2 rfl ?_
    obtain ⟨rr4, ee5, hs⟩ := tg_b1_e hs
    refine tg_pVs (As := [.int 1, .int p2]) (rest := []) C hl0 (kX5_isFace l D o0 o1 o2 o3 o4 o5 o6 o7 o8 m_text m_size m_at m_begin m_token m_told m_read m_harbour m_now m_undone m_undos m_one m_two m_three m_chalks m_cb m_co m_trace m_kept 1 p2 rr4 ee5) wm_887 meX5_isFace (by decide) rfl rfl rfl rfl (Nat.le_of_ble_eq_true rfl) dX5_throwsDice_12 ?_
    refine tg_if_eq (tgt := 27) C dX5_throwsDice_15 (by decide) (fun cc6 => ?_) (fun cc6 => ?_)
    · have hs := tg_t cc6 hs
      refine tg_iconst (v := (-1)) C dX5_throwsDice_27 (by decide) ?_
      obtain ⟨rfl, rfl, rfl, rfl⟩ := tg_i4 hs
      exact tg_iret hE rfl dX5_throwsDice_28
    · have hs := tg_f cc6 hs
      refine tg_aload_n C dX5_throwsDice_18 rfl 0 rfl ?_
      refine tg_iconst (v := 2) C dX5_throwsDice_19 (by decide) ?_
      refine tg_iload_n C dX5_throwsDice_20 rfl 3 rfl ?_
      obtain ⟨rr7, ee8, hs⟩ := tg_b1_e hs
      refine tg_pVs (As := [.int 2, .int p3]) (rest := []) C hl0 (kX5_isFace l D o0 o1 o2 o3 o4 o5 o6 o7 o8 m_text m_size m_at m_begin m_token m_told m_read m_harbour m_now m_undone m_undos m_one m_two m_three m_chalks m_cb m_co m_trace m_kept 2 p3 rr7 ee8) wm_887 meX5_isFace (by decide) rfl rfl rfl rfl (Nat.le_of_ble_eq_true rfl) dX5_throwsDice_21 ?_
      refine tg_if_ne (tgt := 29) C dX5_throwsDice_24 (by decide) (fun cc9 => ?_) (fun cc9 => ?_)
      · have hs := tg_t cc9 hs
        refine tg_aload_n C dX5_throwsDice_29 rfl 0 rfl ?_
        refine tg_get (v := .ref o4) C cfX5 0 rfl 8 (by decide) wm_713 rfl dX5_throwsDice_30 ?_
        refine tg_iconst (v := 2) C dX5_throwsDice_33 (by decide) ?_
        refine tg_iald C 4 0 rfl rfl (tg_vin (by decide)) dX5_throwsDice_34 ?_
        refine tg_topi (y := m_now 2) rfl ?_
        refine tg_bipush (v := (-9)) C dX5_throwsDice_35 (by decide) ?_
        refine tg_icmp_ne (tgt := 47) C dX5_throwsDice_37 (by decide) (fun cc10 => ?_) (fun cc10 => ?_)
        · have hs := tg_t cc10 hs
          refine tg_bipush (v := (-2)) C dX5_throwsDice_47 (by decide) ?_
          obtain ⟨rfl, rfl, rfl, rfl⟩ := tg_i4 hs
          exact tg_iret hE rfl dX5_throwsDice_49
        · have hs := tg_nf cc10 hs
          refine tg_aload_n C dX5_throwsDice_40 rfl 0 rfl ?_
          obtain ⟨rr11, ee12, hs⟩ := tg_b1_e hs
          refine tg_pVs (As := []) (rest := []) C hl0 (kX5_isWon l D o0 o1 o2 o3 o4 o5 o6 o7 o8 m_text m_size m_at m_begin m_token m_told m_read m_harbour m_now m_undone m_undos m_one m_two m_three m_chalks m_cb m_co m_trace m_kept rr11 ee12) wm_891 meX5_isWon (by decide) rfl rfl rfl rfl (Nat.le_of_ble_eq_true rfl) dX5_throwsDice_41 ?_
          refine tg_if_eq (tgt := 50) C dX5_throwsDice_44 (by decide) (fun cc13 => ?_) (fun cc13 => ?_)
          · have hs := tg_t cc13 hs
            refine tg_aload_n C dX5_throwsDice_50 rfl 0 rfl ?_
            obtain ⟨gg14, vv15, ee16, hs⟩ := tg_b2_e hs
            refine tg_eVs (ws' := (tw_M D o0 o1 o2 o3 o4 o5 o6 o7 o8 m_text m_size m_at m_begin m_token m_told m_read m_harbour m_now gg14 vv15 m_one m_two m_three m_chalks m_cb m_co m_trace m_kept)) (As := []) (rest := []) C V hl0 (kX5_notes l D o0 o1 o2 o3 o4 o5 o6 o7 o8 m_text m_size m_at m_begin m_token m_told m_read m_harbour m_now m_undone m_undos m_one m_two m_three m_chalks m_cb m_co m_trace m_kept gg14 vv15 ee16) wm_895 meX5_notes (by decide) rfl rfl rfl rfl (Nat.le_of_ble_eq_true rfl) rfl dX5_throwsDice_51 ?_
            refine tg_aload_n C dX5_throwsDice_54 rfl 0 rfl ?_
            refine tg_get (v := .ref o4) C cfX5 0 rfl 8 (by decide) wm_713 rfl dX5_throwsDice_55 ?_
            refine tg_iconst (v := 2) C dX5_throwsDice_58 (by decide) ?_
            refine tg_bipush (v := 100) C dX5_throwsDice_59 (by decide) ?_
            refine tg_iload_n C dX5_throwsDice_61 rfl 1 rfl ?_
            refine tg_imul C dX5_throwsDice_62 ?_
            refine tg_bipush (v := 10) C dX5_throwsDice_63 (by decide) ?_
            refine tg_iload_n C dX5_throwsDice_65 rfl 2 rfl ?_
            refine tg_imul C dX5_throwsDice_66 ?_
            refine tg_iadd C dX5_throwsDice_67 ?_
            refine tg_iload_n C dX5_throwsDice_68 rfl 3 rfl ?_
            refine tg_iadd C dX5_throwsDice_69 ?_
            obtain ⟨vv17, evv17, hs⟩ := tg_nm_e hs
            refine tg_topi evv17 ?_
            obtain ⟨gg18, egg18, hs⟩ := tg_nm_e hs
            refine tg_iast (ws' := (tw_M D o0 o1 o2 o3 o4 o5 o6 o7 o8 m_text m_size m_at m_begin m_token m_told m_read m_harbour gg18 gg14 vv15 m_one m_two m_three m_chalks m_cb m_co m_trace m_kept)) C V 4 0 rfl rfl (tg_vin (by decide)) (by rw [egg18]; rfl) rfl dX5_throwsDice_70 ?_
            refine tg_aload_n C dX5_throwsDice_71 rfl 0 rfl ?_
            refine tg_get (v := .ref o4) C cfX5 0 rfl 8 (by decide) wm_713 rfl dX5_throwsDice_72 ?_
            refine tg_iconst (v := 1) C dX5_throwsDice_75 (by decide) ?_
            refine tg_iload_n C dX5_throwsDice_76 rfl 1 rfl ?_
            refine tg_iload_n C dX5_throwsDice_77 rfl 2 rfl ?_
            refine tg_iload_n C dX5_throwsDice_78 rfl 3 rfl ?_
            obtain ⟨rr19, ee20, hs⟩ := tg_b1_e hs
            refine tg_pS (As := [.int p1, .int p2, .int p3]) (rest := [.int 1, .ref o4]) C hl0 (kX5_isDouble l D p1 p2 p3 rr19 ee20) wm_899 meX5_isDouble (by decide) rfl rfl (Nat.le_of_ble_eq_true rfl) dX5_throwsDice_79 ?_
            obtain ⟨vv22, ee36, hs⟩ := tg_b1_e hs
            have JJ23 : tg_G X D 4 0 0 (tw_M D o0 o1 o2 o3 o4 o5 o6 o7 o8 m_text m_size m_at m_begin m_token m_told m_read m_harbour gg18 gg14 vv15 m_one m_two m_three m_chalks m_cb m_co m_trace m_kept) [(0, .ref o0), (1, .int p1), (2, .int p2), (3, .int p3)] 102 [.int vv22, .int 1, .ref o4] := by
              obtain ⟨gg24, egg24, hs⟩ := tg_nm_e hs
              refine tg_iast (ws' := (tw_M D o0 o1 o2 o3 o4 o5 o6 o7 o8 m_text m_size m_at m_begin m_token m_told m_read m_harbour gg24 gg14 vv15 m_one m_two m_three m_chalks m_cb m_co m_trace m_kept)) C V 4 0 rfl rfl (tg_vin (by decide)) (by rw [egg24]; rfl) rfl dX5_throwsDice_102 ?_
              refine tg_aload_n C dX5_throwsDice_103 rfl 0 rfl ?_
              refine tg_get (v := .ref o4) C cfX5 0 rfl 8 (by decide) wm_713 rfl dX5_throwsDice_104 ?_
              refine tg_iconst (v := 5) C dX5_throwsDice_107 (by decide) ?_
              refine tg_aload_n C dX5_throwsDice_108 rfl 0 rfl ?_
              refine tg_get (v := .ref o4) C cfX5 0 rfl 8 (by decide) wm_713 rfl dX5_throwsDice_109 ?_
              refine tg_iconst (v := 0) C dX5_throwsDice_112 (by decide) ?_
              refine tg_iald C 4 0 rfl rfl (tg_vin (by decide)) dX5_throwsDice_113 ?_
              refine tg_topi (y := gg24 0) rfl ?_
              refine tg_iadd C dX5_throwsDice_114 ?_
              refine tg_iload_n C dX5_throwsDice_115 rfl 1 rfl ?_
              refine tg_iload_n C dX5_throwsDice_116 rfl 2 rfl ?_
              obtain ⟨vv26, ee35, hs⟩ := tg_b1_e hs
              have JJ27 : tg_G X D 4 0 0 (tw_M D o0 o1 o2 o3 o4 o5 o6 o7 o8 m_text m_size m_at m_begin m_token m_told m_read m_harbour gg24 gg14 vv15 m_one m_two m_three m_chalks m_cb m_co m_trace m_kept) [(0, .ref o0), (1, .int p1), (2, .int p2), (3, .int p3)] 142 [.int vv26, .int (5 + (gg24 0)), .ref o4] := by
                obtain ⟨hh32, hs⟩ := tg_ck_e hs
                obtain ⟨gg31, egg31, hs⟩ := tg_nm_e hs
                refine tg_iast (ws' := (tw_M D o0 o1 o2 o3 o4 o5 o6 o7 o8 m_text m_size m_at m_begin m_token m_told m_read m_harbour gg31 gg14 vv15 m_one m_two m_three m_chalks m_cb m_co m_trace m_kept)) C V 4 0 rfl rfl hh32 egg31 rfl dX5_throwsDice_142 ?_
                refine tg_aload_n C dX5_throwsDice_143 rfl 0 rfl ?_
                obtain ⟨rr33, ee34, hs⟩ := tg_b1_e hs
                refine tg_pVs (As := []) (rest := []) C hl0 (kX5_open l D o0 o1 o2 o3 o4 o5 o6 o7 o8 m_text m_size m_at m_begin m_token m_told m_read m_harbour gg31 gg14 vv15 m_one m_two m_three m_chalks m_cb m_co m_trace m_kept rr33 ee34) wm_902 meX5_open (by decide) rfl rfl rfl rfl (Nat.le_of_ble_eq_true rfl) dX5_throwsDice_144 ?_
                obtain ⟨rfl, rfl, rfl, rfl⟩ := tg_i4 hs
                exact tg_iret hE rfl dX5_throwsDice_147
              have hs := ee35
              clear ee35
              refine tg_icmp_ne (tgt := 129) C dX5_throwsDice_117 (by decide) (fun cc25 => ?_) (fun cc25 => ?_)
              · have hs := tg_t cc25 hs
                refine tg_aload_n C dX5_throwsDice_129 rfl 0 rfl ?_
                refine tg_get (v := .ref o4) C cfX5 0 rfl 8 (by decide) wm_713 rfl dX5_throwsDice_130 ?_
                refine tg_iconst (v := 5) C dX5_throwsDice_133 (by decide) ?_
                refine tg_aload_n C dX5_throwsDice_134 rfl 0 rfl ?_
                refine tg_get (v := .ref o4) C cfX5 0 rfl 8 (by decide) wm_713 rfl dX5_throwsDice_135 ?_
                refine tg_iconst (v := 0) C dX5_throwsDice_138 (by decide) ?_
                refine tg_iald C 4 0 rfl rfl (tg_vin (by decide)) dX5_throwsDice_139 ?_
                refine tg_topi (y := gg24 0) rfl ?_
                refine tg_iadd C dX5_throwsDice_140 ?_
                obtain ⟨hh28, hs⟩ := tg_ck_e hs
                refine tg_iald C 4 0 rfl rfl hh28 dX5_throwsDice_141 ?_
                obtain rfl := Option.some.inj hs
                exact JJ27
              · have hs := tg_nf cc25 hs
                refine tg_iload_n C dX5_throwsDice_120 rfl 2 rfl ?_
                refine tg_iload_n C dX5_throwsDice_121 rfl 3 rfl ?_
                refine tg_icmp_ne (tgt := 129) C dX5_throwsDice_122 (by decide) (fun cc29 => ?_) (fun cc29 => ?_)
                · have hs := tg_t cc29 hs
                  refine tg_aload_n C dX5_throwsDice_129 rfl 0 rfl ?_
                  refine tg_get (v := .ref o4) C cfX5 0 rfl 8 (by decide) wm_713 rfl dX5_throwsDice_130 ?_
                  refine tg_iconst (v := 5) C dX5_throwsDice_133 (by decide) ?_
                  refine tg_aload_n C dX5_throwsDice_134 rfl 0 rfl ?_
                  refine tg_get (v := .ref o4) C cfX5 0 rfl 8 (by decide) wm_713 rfl dX5_throwsDice_135 ?_
                  refine tg_iconst (v := 0) C dX5_throwsDice_138 (by decide) ?_
                  refine tg_iald C 4 0 rfl rfl (tg_vin (by decide)) dX5_throwsDice_139 ?_
                  refine tg_topi (y := gg24 0) rfl ?_
                  refine tg_iadd C dX5_throwsDice_140 ?_
                  obtain ⟨hh30, hs⟩ := tg_ck_e hs
                  refine tg_iald C 4 0 rfl rfl hh30 dX5_throwsDice_141 ?_
                  obtain rfl := Option.some.inj hs
                  exact JJ27
                · have hs := tg_nf cc29 hs
                  refine tg_iconst (v := 1) C dX5_throwsDice_125 (by decide) ?_
                  refine tg_goto (tgt := 142) C dX5_throwsDice_126 (by decide) ?_
                  obtain rfl := Option.some.inj hs
                  exact JJ27
            have hs := ee36
            clear ee36
            refine tg_if_eq (tgt := 96) C dX5_throwsDice_82 (by decide) (fun cc21 => ?_) (fun cc21 => ?_)
            · have hs := tg_t cc21 hs
              refine tg_aload_n C dX5_throwsDice_96 rfl 0 rfl ?_
              refine tg_get (v := .ref o4) C cfX5 0 rfl 8 (by decide) wm_713 rfl dX5_throwsDice_97 ?_
              refine tg_iconst (v := 1) C dX5_throwsDice_100 (by decide) ?_
              refine tg_iald C 4 0 rfl rfl (tg_vin (by decide)) dX5_throwsDice_101 ?_
              refine tg_topi (y := gg18 1) rfl ?_
              obtain rfl := Option.some.inj hs
              exact JJ23
            · have hs := tg_f cc21 hs
              refine tg_iconst (v := 1) C dX5_throwsDice_85 (by decide) ?_
              refine tg_aload_n C dX5_throwsDice_86 rfl 0 rfl ?_
              refine tg_get (v := .ref o4) C cfX5 0 rfl 8 (by decide) wm_713 rfl dX5_throwsDice_87 ?_
              refine tg_iconst (v := 1) C dX5_throwsDice_90 (by decide) ?_
              refine tg_iald C 4 0 rfl rfl (tg_vin (by decide)) dX5_throwsDice_91 ?_
              refine tg_topi (y := gg18 1) rfl ?_
              refine tg_isub C dX5_throwsDice_92 ?_
              refine tg_goto (tgt := 102) C dX5_throwsDice_93 (by decide) ?_
              obtain rfl := Option.some.inj hs
              exact JJ23
          · have hs := tg_f cc13 hs
            refine tg_bipush (v := (-2)) C dX5_throwsDice_47 (by decide) ?_
            obtain ⟨rfl, rfl, rfl, rfl⟩ := tg_i4 hs
            exact tg_iret hE rfl dX5_throwsDice_49
      · have hs := tg_nf cc9 hs
        refine tg_iconst (v := (-1)) C dX5_throwsDice_27 (by decide) ?_
        obtain ⟨rfl, rfl, rfl, rfl⟩ := tg_i4 hs
        exact tg_iret hE rfl dX5_throwsDice_28
set_option maxHeartbeats 2000000 in
set_option maxRecDepth 20000 in
theorem kX5_throwsDice (l : Launch) (D : tg_D) (o0 o1 o2 o3 o4 o5 o6 o7 o8 : Nat) (m_text : Nat → Int32) (m_size : Int32) (m_at : Int32) (m_begin : Int32) (m_token : Int32) (m_told : Int32) (m_read : Nat → Int32) (m_harbour : Nat → Int32) (m_now : Nat → Int32) (m_undone : Nat → Int32) (m_undos : Int32) (m_one : Int32) (m_two : Int32) (m_three : Int32) (m_chalks : Int32) (m_cb : Nat → Int32) (m_co : Nat → Int32) (m_trace : Int64) (m_kept : Nat → Int32) (p1 : Int32) (p2 : Int32) (p3 : Int32) (r : Int32) (q_m_now : Nat → Int32) (q_m_undone : Nat → Int32) (q_m_undos : Int32) (hs : fX5_throwsDice m_harbour m_now m_undone m_undos p1 p2 p3 = some (r, q_m_now, q_m_undone, q_m_undos)) : Met l yX5_throwsDice [Cond.code yX5_throwsDice cX5_throwsDice 4 (some .int)] (tg_rm 3 64) (tg_Pre D (tw_M D o0 o1 o2 o3 o4 o5 o6 o7 o8 m_text m_size m_at m_begin m_token m_told m_read m_harbour m_now m_undone m_undos m_one m_two m_three m_chalks m_cb m_co m_trace m_kept) [.ref o0, .int p1, .int p2, .int p3]) (tg_Qe (some (.int r)) D (tw_M D o0 o1 o2 o3 o4 o5 o6 o7 o8 m_text m_size m_at m_begin m_token m_told m_read m_harbour q_m_now q_m_undone q_m_undos m_one m_two m_three m_chalks m_cb m_co m_trace m_kept) (tg_Ad (tw_M D o0 o1 o2 o3 o4 o5 o6 o7 o8 m_text m_size m_at m_begin m_token m_told m_read m_harbour m_now m_undone m_undos m_one m_two m_three m_chalks m_cb m_co m_trace m_kept))) 0 0 (tg_Ad (tw_M D o0 o1 o2 o3 o4 o5 o6 o7 o8 m_text m_size m_at m_begin m_token m_told m_read m_harbour m_now m_undone m_undos m_one m_two m_three m_chalks m_cb m_co m_trace m_kept)) := tg_metEi (by decide) (Nat.le_of_ble_eq_true rfl) (fun X hl0 C V hE => vX5_throwsDice l D o0 o1 o2 o3 o4 o5 o6 o7 o8 m_text m_size m_at m_begin m_token m_told m_read m_harbour m_now m_undone m_undos m_one m_two m_three m_chalks m_cb m_co m_trace m_kept p1 p2 p3 X hl0 C V r q_m_now q_m_undone q_m_undos hs hE)
