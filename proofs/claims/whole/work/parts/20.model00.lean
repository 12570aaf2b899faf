def fX5_in (p0 : Int64) (p2 : Int64) (p4 : Int64) : Option (Int32) := if (lg_cmp p0 p2) < 0 then (some 0) else (if 0 < (lg_cmp p0 p4) then (some 0) else (some 1))
set_option maxHeartbeats 2000000 in
set_option maxRecDepth 20000 in
theorem vX5_in (l : Launch) (D : tg_D) (p0 : Int64) (p2 : Int64) (p4 : Int64) (X : tg_X) (hl0 : tg_l X = l) (C : tg_C X D 6 cX5_in RX5 0 0 0 0) (r : Int32) (hs : fX5_in p0 p2 p4 = some r) (hE : tg_Ei X D 0 0 cX5_in .boolean r []) : tg_G X D 6 0 0 [] [(0, .long p0), (2, .long p2), (4, .long p4)] 0 [] := by
  unfold fX5_in at hs
  refine tg_lload_n C dX5_in_0 rfl 0 rfl ?_
  refine tg_lload_n C dX5_in_1 rfl 1 rfl ?_
  refine tg_lcmp C dX5_in_2 ?_
  refine tg_if_lt (tgt := 17) C dX5_in_3 (by decide) (fun cc1 => ?_) (fun cc1 => ?_)
  · have hs := tg_t cc1 hs
    refine tg_iconst (v := 0) C dX5_in_17 (by decide) ?_
    obtain rfl := Option.some.inj hs
    exact tg_iret hE rfl dX5_in_18
  · have hs := tg_f cc1 hs
    refine tg_lload_n C dX5_in_6 rfl 0 rfl ?_
    refine tg_lload C dX5_in_7 2 rfl ?_
    refine tg_lcmp C dX5_in_9 ?_
    refine tg_if_gt (tgt := 17) C dX5_in_10 (by decide) (fun cc2 => ?_) (fun cc2 => ?_)
    · have hs := tg_t cc2 hs
      refine tg_iconst (v := 0) C dX5_in_17 (by decide) ?_
      obtain rfl := Option.some.inj hs
      exact tg_iret hE rfl dX5_in_18
    · have hs := tg_f cc2 hs
      refine tg_iconst (v := 1) C dX5_in_13 (by decide) ?_
      refine tg_goto (tgt := 18) C dX5_in_14 (by decide) ?_
      obtain rfl := Option.some.inj hs
      exact tg_iret hE rfl dX5_in_18
set_option maxHeartbeats 2000000 in
set_option maxRecDepth 20000 in
theorem kX5_in (l : Launch) (D : tg_D) (p0 : Int64) (p2 : Int64) (p4 : Int64) (r : Int32) (hs : fX5_in p0 p2 p4 = some r) : Met l yX5_in [Cond.code yX5_in cX5_in 6 (some .boolean)] (tg_rm 0 0) (tg_Pre D [] [.long p0, .long p2, .long p4]) (vp_Si (fun r' => r' = r)) 0 0 (fun _ => False) := tg_metI (by decide) (Nat.le_of_ble_eq_true rfl) (fun X hl0 C hE => vX5_in l D p0 p2 p4 X hl0 C r hs hE)
def fX5_type (m_text : Nat → Int32) (m_size : Int32) (p1 : Int32) : Option (Int32 × (Nat → Int32) × Int32) := tg_b1 (fX5_in (Int32.toInt64 p1) 0 255) fun rr1 => if ¬ rr1 = 0 then (if ¬ m_size = 120 then (tg_ck m_size 120 <| tg_nm (upd m_text (Int32.toNatClampNeg m_size) p1) fun gg5 => tg_nm (m_size + 1) fun vv7 => some (vv7, gg5, vv7)) else (some ((-3), m_text, m_size))) else (some ((-1), m_text, m_size))
set_option maxHeartbeats 2000000 in
set_option maxRecDepth 20000 in
theorem vX5_type (l : Launch) (D : tg_D) (o0 o1 o2 o3 o4 o5 o6 o7 o8 : Nat) (m_text : Nat → Int32) (m_size : Int32) (m_at : Int32) (m_begin : Int32) (m_token : Int32) (m_told : Int32) (m_read : Nat → Int32) (m_harbour : Nat → Int32) (m_now : Nat → Int32) (m_undone : Nat → Int32) (m_undos : Int32) (m_one : Int32) (m_two : Int32) (m_three : Int32) (m_chalks : Int32) (m_cb : Nat → Int32) (m_co : Nat → Int32) (m_trace : Int64) (m_kept : Nat → Int32) (p1 : Int32) (X : tg_X) (hl0 : tg_l X = l) (C : tg_C X D 2 cX5_type RX5 1 25 0 0) (V : tg_V X) (r : Int32) (q_m_text : Nat → Int32) (q_m_size : Int32) (hs : fX5_type m_text m_size p1 = some (r, q_m_text, q_m_size)) (hE : tg_Ei X D 0 0 cX5_type .int r (tw_M D o0 o1 o2 o3 o4 o5 o6 o7 o8 q_m_text q_m_size m_at m_begin m_token m_told m_read m_harbour m_now m_undone m_undos m_one m_two m_three m_chalks m_cb m_co m_trace m_kept)) : tg_G X D 2 0 0 (tw_M D o0 o1 o2 o3 o4 o5 o6 o7 o8 m_text m_size m_at m_begin m_token m_told m_read m_harbour m_now m_undone m_undos m_one m_two m_three m_chalks m_cb m_co m_trace m_kept) [(0, .ref o0), (1, .int p1)] 0 [] := by
  unfold fX5_type at hs
  refine tg_iload_n C dX5_type_0 rfl 1 rfl ?_
  refine tg_i2l C dX5_type_1 ?_
  refine tg_lconst (v := 0) C dX5_type_2 (by decide) ?_
  refine tg_ldc2 C wm_767 dX5_type_3 ?_
  obtain ⟨rr1, ee2, hs⟩ := tg_b1_e hs
  refine tg_pS (As := [.long (Int32.toInt64 p1), .long 0, .long 255]) (rest := []) C hl0 (kX5_in l D (Int32.toInt64 p1) 0 255 rr1 ee2) wm_768 meX5_in (by decide) rfl rfl (Nat.le_of_ble_eq_true rfl) dX5_type_6 ?_
  refine tg_if_ne (tgt := 14) C dX5_type_9 (by decide) (fun cc3 => ?_) (fun cc3 => ?_)
  · have hs := tg_t cc3 hs
    refine tg_aload_n C dX5_type_14 rfl 0 rfl ?_
    refine tg_get (v := .int m_size) C cfX5 0 rfl 1 (by decide) wm_706 rfl dX5_type_15 ?_
    refine tg_bipush (v := 120) C dX5_type_18 (by decide) ?_
    refine tg_icmp_ne (tgt := 26) C dX5_type_20 (by decide) (fun cc4 => ?_) (fun cc4 => ?_)
    · have hs := tg_t cc4 hs
      refine tg_aload_n C dX5_type_26 rfl 0 rfl ?_
      refine tg_get (v := .ref o1) C cfX5 0 rfl 0 (by decide) wm_705 rfl dX5_type_27 ?_
      refine tg_aload_n C dX5_type_30 rfl 0 rfl ?_
      refine tg_get (v := .int m_size) C cfX5 0 rfl 1 (by decide) wm_706 rfl dX5_type_31 ?_
      refine tg_iload_n C dX5_type_34 rfl 1 rfl ?_
      obtain ⟨hh6, hs⟩ := tg_ck_e hs
      obtain ⟨gg5, egg5, hs⟩ := tg_nm_e hs
      refine tg_iast (ws' := (tw_M D o0 o1 o2 o3 o4 o5 o6 o7 o8 gg5 m_size m_at m_begin m_token m_told m_read m_harbour m_now m_undone m_undos m_one m_two m_three m_chalks m_cb m_co m_trace m_kept)) C V 1 0 rfl rfl hh6 egg5 rfl dX5_type_35 ?_
      refine tg_aload_n C dX5_type_36 rfl 0 rfl ?_
      refine tg_dup C dX5_type_37 rfl ?_
      refine tg_get (v := .int m_size) C cfX5 0 rfl 1 (by decide) wm_706 rfl dX5_type_38 ?_
      refine tg_iconst (v := 1) C dX5_type_41 (by decide) ?_
      refine tg_iadd C dX5_type_42 ?_
      obtain ⟨vv7, evv7, hs⟩ := tg_nm_e hs
      refine tg_topi evv7 ?_
      refine tg_put (ws' := (tw_M D o0 o1 o2 o3 o4 o5 o6 o7 o8 gg5 vv7 m_at m_begin m_token m_told m_read m_harbour m_now m_undone m_undos m_one m_two m_three m_chalks m_cb m_co m_trace m_kept)) C V cfX5 0 rfl 1 (by decide) wm_706 rfl rfl rfl (Nat.le_of_ble_eq_true rfl) rfl dX5_type_43 ?_
      refine tg_aload_n C dX5_type_46 rfl 0 rfl ?_
      refine tg_get (v := .int vv7) C cfX5 0 rfl 1 (by decide) wm_706 rfl dX5_type_47 ?_
      obtain ⟨rfl, rfl, rfl⟩ := tg_i3 hs
      exact tg_iret hE rfl dX5_type_50
    · have hs := tg_nf cc4 hs
      refine tg_bipush (v := (-3)) C dX5_type_23 (by decide) ?_
      obtain ⟨rfl, rfl, rfl⟩ := tg_i3 hs
      exact tg_iret hE rfl dX5_type_25
  · have hs := tg_nf cc3 hs
    refine tg_iconst (v := (-1)) C dX5_type_12 (by decide) ?_
    obtain ⟨rfl, rfl, rfl⟩ := tg_i3 hs
    exact tg_iret hE rfl dX5_type_13
set_option maxHeartbeats 2000000 in
set_option maxRecDepth 20000 in
theorem kX5_type (l : Launch) (D : tg_D) (o0 o1 o2 o3 o4 o5 o6 o7 o8 : Nat) (m_text : Nat → Int32) (m_size : Int32) (m_at : Int32) (m_begin : Int32) (m_token : Int32) (m_told : Int32) (m_read : Nat → Int32) (m_harbour : Nat → Int32) (m_now : Nat → Int32) (m_undone : Nat → Int32) (m_undos : Int32) (m_one : Int32) (m_two : Int32) (m_three : Int32) (m_chalks : Int32) (m_cb : Nat → Int32) (m_co : Nat → Int32) (m_trace : Int64) (m_kept : Nat → Int32) (p1 : Int32) (r : Int32) (q_m_text : Nat → Int32) (q_m_size : Int32) (hs : fX5_type m_text m_size p1 = some (r, q_m_text, q_m_size)) : Met l yX5_type [Cond.code yX5_type cX5_type 2 (some .int)] (tg_rm 1 25) (tg_Pre D (tw_M D o0 o1 o2 o3 o4 o5 o6 o7 o8 m_text m_size m_at m_begin m_token m_told m_read m_harbour m_now m_undone m_undos m_one m_two m_three m_chalks m_cb m_co m_trace m_kept) [.ref o0, .int p1]) (tg_Qe (some (.int r)) D (tw_M D o0 o1 o2 o3 o4 o5 o6 o7 o8 q_m_text q_m_size m_at m_begin m_token m_told m_read m_harbour m_now m_undone m_undos m_one m_two m_three m_chalks m_cb m_co m_trace m_kept) (tg_Ad (tw_M D o0 o1 o2 o3 o4 o5 o6 o7 o8 m_text m_size m_at m_begin m_token m_told m_read m_harbour m_now m_undone m_undos m_one m_two m_three m_chalks m_cb m_co m_trace m_kept))) 0 0 (tg_Ad (tw_M D o0 o1 o2 o3 o4 o5 o6 o7 o8 m_text m_size m_at m_begin m_token m_told m_read m_harbour m_now m_undone m_undos m_one m_two m_three m_chalks m_cb m_co m_trace m_kept)) := tg_metEi (by decide) (Nat.le_of_ble_eq_true rfl) (fun X hl0 C V hE => vX5_type l D o0 o1 o2 o3 o4 o5 o6 o7 o8 m_text m_size m_at m_begin m_token m_told m_read m_harbour m_now m_undone m_undos m_one m_two m_three m_chalks m_cb m_co m_trace m_kept p1 X hl0 C V r q_m_text q_m_size hs hE)
def fX5_clear (m_size : Int32) : Option (Int32 × Int32) := some (m_size, 0)
set_option maxHeartbeats 2000000 in
set_option maxRecDepth 20000 in
theorem vX5_clear (l : Launch) (D : tg_D) (o0 o1 o2 o3 o4 o5 o6 o7 o8 : Nat) (m_text : Nat → Int32) (m_size : Int32) (m_at : Int32) (m_begin : Int32) (m_token : Int32) (m_told : Int32) (m_read : Nat → Int32) (m_harbour : Nat → Int32) (m_now : Nat → Int32) (m_undone : Nat → Int32) (m_undos : Int32) (m_one : Int32) (m_two : Int32) (m_three : Int32) (m_chalks : Int32) (m_cb : Nat → Int32) (m_co : Nat → Int32) (m_trace : Int64) (m_kept : Nat → Int32) (X : tg_X) (hl0 : tg_l X = l) (C : tg_C X D 2 cX5_clear RX5 0 0 0 0) (V : tg_V X) (r : Int32) (q_m_size : Int32) (hs : fX5_clear m_size = some (r, q_m_size)) (hE : tg_Ei X D 0 0 cX5_clear .int r (tw_M D o0 o1 o2 o3 o4 o5 o6 o7 o8 m_text q_m_size m_at m_begin m_token m_told m_read m_harbour m_now m_undone m_undos m_one m_two m_three m_chalks m_cb m_co m_trace m_kept)) : tg_G X D 2 0 0 (tw_M D o0 o1 o2 o3 o4 o5 o6 o7 o8 m_text m_size m_at m_begin m_token m_told m_read m_harbour m_now m_undone m_undos m_one m_two m_three m_chalks m_cb m_co m_trace m_kept) [(0, .ref o0)] 0 [] := by
  unfold fX5_clear at hs
  refine tg_aload_n C dX5_clear_0 rfl 0 rfl ?_
  refine tg_get (v := .int m_size) C cfX5 0 rfl 1 (by decide) wm_706 rfl dX5_clear_1 ?_
  refine tg_istore_n (lv' := [(1, .int m_size), (0, .ref o0)]) C dX5_clear_4 rfl (by decide) rfl ?_
  refine tg_aload_n C dX5_clear_5 rfl 1 rfl ?_
  refine tg_iconst (v := 0) C dX5_clear_6 (by decide) ?_
  refine tg_put (ws' := (tw_M D o0 o1 o2 o3 o4 o5 o6 o7 o8 m_text 0 m_at m_begin m_token m_told m_read m_harbour m_now m_undone m_undos m_one m_two m_three m_chalks m_cb m_co m_trace m_kept)) C V cfX5 0 rfl 1 (by decide) wm_706 rfl rfl rfl (Nat.le_of_ble_eq_true rfl) rfl dX5_clear_7 ?_
  refine tg_iload_n C dX5_clear_10 rfl 0 rfl ?_
  obtain ⟨rfl, rfl⟩ := tg_i2 hs
  exact tg_iret hE rfl dX5_clear_11
set_option maxHeartbeats 2000000 in
set_option maxRecDepth 20000 in
theorem kX5_clear (l : Launch) (D : tg_D) (o0 o1 o2 o3 o4 o5 o6 o7 o8 : Nat) (m_text : Nat → Int32) (m_size : Int32) (m_at : Int32) (m_begin : Int32) (m_token : Int32) (m_told : Int32) (m_read : Nat → Int32) (m_harbour : Nat → Int32) (m_now : Nat → Int32) (m_undone : Nat → Int32) (m_undos : Int32) (m_one : Int32) (m_two : Int32) (m_three : Int32) (m_chalks : Int32) (m_cb : Nat → Int32) (m_co : Nat → Int32) (m_trace : Int64) (m_kept : Nat → Int32) (r : Int32) (q_m_size : Int32) (hs : fX5_clear m_size = some (r, q_m_size)) : Met l yX5_clear [Cond.code yX5_clear cX5_clear 2 (some .int)] (tg_rm 0 0) (tg_Pre D (tw_M D o0 o1 o2 o3 o4 o5 o6 o7 o8 m_text m_size m_at m_begin m_token m_told m_read m_harbour m_now m_undone m_undos m_one m_two m_three m_chalks m_cb m_co m_trace m_kept) [.ref o0]) (tg_Qe (some (.int r)) D (tw_M D o0 o1 o2 o3 o4 o5 o6 o7 o8 m_text q_m_size m_at m_begin m_token m_told m_read m_harbour m_now m_undone m_undos m_one m_two m_three m_chalks m_cb m_co m_trace m_kept) (tg_Ad (tw_M D o0 o1 o2 o3 o4 o5 o6 o7 o8 m_text m_size m_at m_begin m_token m_told m_read m_harbour m_now m_undone m_undos m_one m_two m_three m_chalks m_cb m_co m_trace m_kept))) 0 0 (tg_Ad (tw_M D o0 o1 o2 o3 o4 o5 o6 o7 o8 m_text m_size m_at m_begin m_token m_told m_read m_harbour m_now m_undone m_undos m_one m_two m_three m_chalks m_cb m_co m_trace m_kept)) := tg_metEi (by decide) (Nat.le_of_ble_eq_true rfl) (fun X hl0 C V hE => vX5_clear l D o0 o1 o2 o3 o4 o5 o6 o7 o8 m_text m_size m_at m_begin m_token m_told m_read m_harbour m_now m_undone m_undos m_one m_two m_three m_chalks m_cb m_co m_trace m_kept X hl0 C V r q_m_size hs hE)
def fX5_isLetter (p0 : Int32) : Option (Int32) := tg_b1 (fX5_in (Int32.toInt64 p0) 97 122) fun rr1 => tg_bz rr1 <| some rr1
set_option maxHeartbeats 2000000 in
set_option maxRecDepth 20000 in
theorem vX5_isLetter (l : Launch) (D : tg_D) (p0 : Int32) (X : tg_X) (hl0 : tg_l X = l) (C : tg_C X D 1 cX5_isLetter RX5 1 25 0 0) (r : Int32) (hs : fX5_isLetter p0 = some r) (hE : tg_Ei X D 0 0 cX5_isLetter .boolean r []) : tg_G X D 1 0 0 [] [(0, .int p0)] 0 [] := by
  unfold fX5_isLetter at hs
  refine tg_iload_n C dX5_isLetter_0 rfl 0 rfl ?_
  refine tg_i2l C dX5_isLetter_1 ?_
  refine tg_ldc2 C wm_786 dX5_isLetter_2 ?_
  refine tg_ldc2 C wm_787 dX5_isLetter_5 ?_
  obtain ⟨rr1, ee2, hs⟩ := tg_b1_e hs
  refine tg_pS (As := [.long (Int32.toInt64 p0), .long 97, .long 122]) (rest := []) C hl0 (kX5_in l D (Int32.toInt64 p0) 97 122 rr1 ee2) wm_768 meX5_in (by decide) rfl rfl (Nat.le_of_ble_eq_true rfl) dX5_isLetter_8 ?_
  obtain ⟨hh3, hs⟩ := tg_bz_e hs
  obtain rfl := Option.some.inj hs
  exact tg_iret hE hh3 dX5_isLetter_11
set_option maxHeartbeats 2000000 in
set_option maxRecDepth 20000 in
theorem kX5_isLetter (l : Launch) (D : tg_D) (p0 : Int32) (r : Int32) (hs : fX5_isLetter p0 = some r) : Met l yX5_isLetter [Cond.code yX5_isLetter cX5_isLetter 1 (some .boolean)] (tg_rm 1 25) (tg_Pre D [] [.int p0]) (vp_Si (fun r' => r' = r)) 0 0 (fun _ => False) := tg_metI (by decide) (Nat.le_of_ble_eq_true rfl) (fun X hl0 C hE => vX5_isLetter l D p0 X hl0 C r hs hE)
def fX5_isFigure (p0 : Int32) : Option (Int32) := tg_b1 (fX5_in (Int32.toInt64 p0) 48 57) fun rr1 => tg_bz rr1 <| some rr1
set_option maxHeartbeats 2000000 in
set_option maxRecDepth 20000 in
theorem vX5_isFigure (l : Launch) (D : tg_D) (p0 : Int32) (X : tg_X) (hl0 : tg_l X = l) (C : tg_C X D 1 cX5_isFigure RX5 1 25 0 0) (r : Int32) (hs : fX5_isFigure p0 = some r) (hE : tg_Ei X D 0 0 cX5_isFigure .boolean r []) : tg_G X D 1 0 0 [] [(0, .int p0)] 0 [] := by
  unfold fX5_isFigure at hs
  refine tg_iload_n C dX5_isFigure_0 rfl 0 rfl ?_
  refine tg_i2l C dX5_isFigure_1 ?_
  refine tg_ldc2 C wm_795 dX5_isFigure_2 ?_
  refine tg_ldc2 C wm_796 dX5_isFigure_5 ?_
  obtain ⟨rr1, ee2, hs⟩ := tg_b1_e hs
  refine tg_pS (As := [.long (Int32.toInt64 p0), .long 48, .long 57]) (rest := []) C hl0 (kX5_in l D (Int32.toInt64 p0) 48 57 rr1 ee2) wm_768 meX5_in (by decide) rfl rfl (Nat.le_of_ble_eq_true rfl) dX5_isFigure_8 ?_
  obtain ⟨hh3, hs⟩ := tg_bz_e hs
  obtain rfl := Option.some.inj hs
  exact tg_iret hE hh3 dX5_isFigure_11
set_option maxHeartbeats 2000000 in
set_option maxRecDepth 20000 in
theorem kX5_isFigure (l : Launch) (D : tg_D) (p0 : Int32) (r : Int32) (hs : fX5_isFigure p0 = some r) : Met l yX5_isFigure [Cond.code yX5_isFigure cX5_isFigure 1 (some .boolean)] (tg_rm 1 25) (tg_Pre D [] [.int p0]) (vp_Si (fun r' => r' = r)) 0 0 (fun _ => False) := tg_metI (by decide) (Nat.le_of_ble_eq_true rfl) (fun X hl0 C hE => vX5_isFigure l D p0 X hl0 C r hs hE)
def fX5_readLetters_L13 (m_text : Nat → Int32) (m_size : Int32) : Nat → Int32 → Option (Int32)
  | 0, _ => none
  | fuel + 1, m_at => if m_size ≤ m_at then (some m_at) else (tg_ck m_at 120 <| tg_b1 (fX5_isLetter (m_text (Int32.toNatClampNeg m_at))) fun rr5 => if rr5 = 0 then (some m_at) else (tg_nm (m_at + 1) fun vv8 => fX5_readLetters_L13 m_text m_size fuel vv8))
def fX5_readLetters (m_text : Nat → Int32) (m_size : Int32) (m_at : Int32) (m_begin : Int32) : Option (Int32 × Int32 × Int32) := tg_ck m_at 120 <| tg_nm (m_text (Int32.toNatClampNeg m_at)) fun vv2 => tg_b1 (fX5_readLetters_L13 m_text m_size 400 m_at) fun vv9 => tg_b1 (if ¬ (vv9 - m_begin) = 1 then (some (4 : Int32)) else (if vv2 = 100 then (some (1 : Int32)) else (if vv2 = 98 then (some (1 : Int32)) else (if ¬ vv2 = 103 then (some (4 : Int32)) else (some (1 : Int32)))))) fun (vv12 : Int32) => some (vv9, vv12, vv2)
set_option maxHeartbeats 2000000 in
set_option maxRecDepth 20000 in
theorem vX5_readLetters_L13 (l : Launch) (D : tg_D) (o0 o1 o2 o3 o4 o5 o6 o7 o8 : Nat) (m_text : Nat → Int32) (m_size : Int32) (m_begin : Int32) (m_token : Int32) (m_told : Int32) (m_read : Nat → Int32) (m_harbour : Nat → Int32) (m_now : Nat → Int32) (m_undone : Nat → Int32) (m_undos : Int32) (m_one : Int32) (m_two : Int32) (m_three : Int32) (m_chalks : Int32) (m_cb : Nat → Int32) (m_co : Nat → Int32) (m_trace : Int64) (m_kept : Nat → Int32) (X : tg_X) (hl0 : tg_l X = l) (C : tg_C X D 1 cX5_readLetters RX5 2 45 0 0) (V : tg_V X) (o_m_at : Int32) : ∀ (fuel : Nat) (m_at : Int32), fX5_readLetters_L13 m_text m_size fuel m_at = some o_m_at → tg_G X D 1 0 0 (tw_M D o0 o1 o2 o3 o4 o5 o6 o7 o8 m_text m_size o_m_at m_begin m_token m_told m_read m_harbour m_now m_undone m_undos m_one m_two m_three m_chalks m_cb m_co m_trace m_kept) [(0, .ref o0)] 52 [] → tg_G X D 1 0 0 (tw_M D o0 o1 o2 o3 o4 o5 o6 o7 o8 m_text m_size m_at m_begin m_token m_told m_read m_harbour m_now m_undone m_undos m_one m_two m_three m_chalks m_cb m_co m_trace m_kept) [(0, .ref o0)] 13 [] := by
  intro fuel
  induction fuel with
  | zero =>
    intro m_at hs _
    rw [fX5_readLetters_L13] at hs
    cases hs
  | succ fuel ih =>
    intro m_at hs J
    rw [fX5_readLetters_L13] at hs
    refine tg_aload_n C dX5_readLetters_13 rfl 0 rfl ?_
    refine tg_get (v := .int m_at) C cfX5 0 rfl 2 (by decide) wm_707 rfl dX5_readLetters_14 ?_
    refine tg_aload_n C dX5_readLetters_17 rfl 0 rfl ?_
    refine tg_get (v := .int m_size) C cfX5 0 rfl 1 (by decide) wm_706 rfl dX5_readLetters_18 ?_
    refine tg_icmp_ge (tgt := 52) C dX5_readLetters_21 (by decide) (fun cc3 => ?_) (fun cc3 => ?_)
    · have hs := tg_t cc3 hs
      obtain rfl := Option.some.inj hs
      exact J
    · have hs := tg_f cc3 hs
      refine tg_aload_n C dX5_readLetters_24 rfl 0 rfl ?_
      refine tg_get (v := .ref o1) C cfX5 0 rfl 0 (by decide) wm_705 rfl dX5_readLetters_25 ?_
      refine tg_aload_n C dX5_readLetters_28 rfl 0 rfl ?_
      refine tg_get (v := .int m_at) C cfX5 0 rfl 2 (by decide) wm_707 rfl dX5_readLetters_29 ?_
      obtain ⟨hh4, hs⟩ := tg_ck_e hs
      refine tg_iald C 1 0 rfl rfl hh4 dX5_readLetters_32 ?_
      obtain ⟨rr5, ee6, hs⟩ := tg_b1_e hs
      refine tg_pS (As := [.int (m_text (Int32.toNatClampNeg m_at))]) (rest := []) C hl0 (kX5_isLetter l D (m_text (Int32.toNatClampNeg m_at)) rr5 ee6) wm_783 meX5_isLetter (by decide) rfl rfl (Nat.le_of_ble_eq_true rfl) dX5_readLetters_33 ?_
      refine tg_if_eq (tgt := 52) C dX5_readLetters_36 (by decide) (fun cc7 => ?_) (fun cc7 => ?_)
      · have hs := tg_t cc7 hs
        obtain rfl := Option.some.inj hs
        exact J
      · have hs := tg_f cc7 hs
        refine tg_aload_n C dX5_readLetters_39 rfl 0 rfl ?_
        refine tg_dup C dX5_readLetters_40 rfl ?_
        refine tg_get (v := .int m_at) C cfX5 0 rfl 2 (by decide) wm_707 rfl dX5_readLetters_41 ?_
        refine tg_iconst (v := 1) C dX5_readLetters_44 (by decide) ?_
        refine tg_iadd C dX5_readLetters_45 ?_
        obtain ⟨vv8, evv8, hs⟩ := tg_nm_e hs
        refine tg_topi evv8 ?_
        refine tg_put (ws' := (tw_M D o0 o1 o2 o3 o4 o5 o6 o7 o8 m_text m_size vv8 m_begin m_token m_told m_read m_harbour m_now m_undone m_undos m_one m_two m_three m_chalks m_cb m_co m_trace m_kept)) C V cfX5 0 rfl 2 (by decide) wm_707 rfl rfl rfl (Nat.le_of_ble_eq_true rfl) rfl dX5_readLetters_46 ?_
        refine tg_goto (tgt := 13) C dX5_readLetters_49 (by decide) ?_
        exact ih vv8 hs J
set_option maxHeartbeats 2000000 in
set_option maxRecDepth 20000 in
theorem vX5_readLetters (l : Launch) (D : tg_D) (o0 o1 o2 o3 o4 o5 o6 o7 o8 : Nat) (m_text : Nat → Int32) (m_size : Int32) (m_at : Int32) (m_begin : Int32) (m_token : Int32) (m_told : Int32) (m_read : Nat → Int32) (m_harbour : Nat → Int32) (m_now : Nat → Int32) (m_undone : Nat → Int32) (m_undos : Int32) (m_one : Int32) (m_two : Int32) (m_three : Int32) (m_chalks : Int32) (m_cb : Nat → Int32) (m_co : Nat → Int32) (m_trace : Int64) (m_kept : Nat → Int32) (X : tg_X) (hl0 : tg_l X = l) (C : tg_C X D 1 cX5_readLetters RX5 2 45 0 0) (V : tg_V X) (q_m_at : Int32) (q_m_token : Int32) (q_m_told : Int32) (hs : fX5_readLetters m_text m_size m_at m_begin = some (q_m_at, q_m_token, q_m_told)) (hE : tg_Ev X D 0 0 cX5_readLetters (tw_M D o0 o1 o2 o3 o4 o5 o6 o7 o8 m_text m_size q_m_at m_begin q_m_token q_m_told m_read m_harbour m_now m_undone m_undos m_one m_two m_three m_chalks m_cb m_co m_trace m_kept)) : tg_G X D 1 0 0 (tw_M D o0 o1 o2 o3 o4 o5 o6 o7 o8 m_text m_size m_at m_begin m_token m_told m_read m_harbour m_now m_undone m_undos m_one m_two m_three m_chalks m_cb m_co m_trace m_kept) [(0, .ref o0)] 0 [] := by
  unfold fX5_readLetters at hs
  refine tg_aload_n C dX5_readLetters_0 rfl 0 rfl ?_
  refine tg_aload_n C dX5_readLetters_1 rfl 0 rfl ?_
  refine tg_get (v := .ref o1) C cfX5 0 rfl 0 (by decide) wm_705 rfl dX5_readLetters_2 ?_
  refine tg_aload_n C dX5_readLetters_5 rfl 0 rfl ?_
  refine tg_get (v := .int m_at) C cfX5 0 rfl 2 (by decide) wm_707 rfl dX5_readLetters_6 ?_
  obtain ⟨hh1, hs⟩ := tg_ck_e hs
  refine tg_iald C 1 0 rfl rfl hh1 dX5_readLetters_9 ?_
  obtain ⟨vv2, evv2, hs⟩ := tg_nm_e hs
  refine tg_topi evv2 ?_
  refine tg_put (ws' := (tw_M D o0 o1 o2 o3 o4 o5 o6 o7 o8 m_text m_size m_at m_begin m_token vv2 m_read m_harbour m_now m_undone m_undos m_one m_two m_three m_chalks m_cb m_co m_trace m_kept)) C V cfX5 0 rfl 5 (by decide) wm_710 rfl rfl rfl (Nat.le_of_ble_eq_true rfl) rfl dX5_readLetters_10 ?_
  obtain ⟨vv9, ee10, hs⟩ := tg_b1_e hs
  refine vX5_readLetters_L13 l D o0 o1 o2 o3 o4 o5 o6 o7 o8 m_text m_size m_begin m_token vv2 m_read m_harbour m_now m_undone m_undos m_one m_two m_three m_chalks m_cb m_co m_trace m_kept X hl0 C V vv9 400 m_at ee10 ?_
  refine tg_aload_n C dX5_readLetters_52 rfl 0 rfl ?_
  refine tg_aload_n C dX5_readLetters_53 rfl 0 rfl ?_
  refine tg_get (v := .int vv9) C cfX5 0 rfl 2 (by decide) wm_707 rfl dX5_readLetters_54 ?_
  refine tg_aload_n C dX5_readLetters_57 rfl 0 rfl ?_
  refine tg_get (v := .int m_begin) C cfX5 0 rfl 3 (by decide) wm_708 rfl dX5_readLetters_58 ?_
  refine tg_isub C dX5_readLetters_61 ?_
  refine tg_iconst (v := 1) C dX5_readLetters_62 (by decide) ?_
  obtain ⟨vv12, ee17, hs⟩ := tg_b1_e hs
  have JJ13 : tg_G X D 1 0 0 (tw_M D o0 o1 o2 o3 o4 o5 o6 o7 o8 m_text m_size vv9 m_begin m_token vv2 m_read m_harbour m_now m_undone m_undos m_one m_two m_three m_chalks m_cb m_co m_trace m_kept) [(0, .ref o0)] 98 [.int vv12, .ref o0] := by
    refine tg_put (ws' := (tw_M D o0 o1 o2 o3 o4 o5 o6 o7 o8 m_text m_size vv9 m_begin vv12 vv2 m_read m_harbour m_now m_undone m_undos m_one m_two m_three m_chalks m_cb m_co m_trace m_kept)) C V cfX5 0 rfl 4 (by decide) wm_709 rfl rfl rfl (Nat.le_of_ble_eq_true rfl) rfl dX5_readLetters_98 ?_
    obtain ⟨rfl, rfl, rfl⟩ := tg_i3 hs
    exact tg_vret hE dX5_readLetters_101
  have hs := ee17
  clear ee17
  refine tg_icmp_ne (tgt := 97) C dX5_readLetters_63 (by decide) (fun cc11 => ?_) (fun cc11 => ?_)
  · have hs := tg_t cc11 hs
    refine tg_iconst (v := 4) C dX5_readLetters_97 (by decide) ?_
    obtain rfl := Option.some.inj hs
    exact JJ13
  · have hs := tg_nf cc11 hs
    refine tg_aload_n C dX5_readLetters_66 rfl 0 rfl ?_
    refine tg_get (v := .int vv2) C cfX5 0 rfl 5 (by decide) wm_710 rfl dX5_readLetters_67 ?_
    refine tg_bipush (v := 100) C dX5_readLetters_70 (by decide) ?_
    refine tg_icmp_eq (tgt := 93) C dX5_readLetters_72 (by decide) (fun cc14 => ?_) (fun cc14 => ?_)
    · have hs := tg_t cc14 hs
      refine tg_iconst (v := 1) C dX5_readLetters_93 (by decide) ?_
      refine tg_goto (tgt := 98) C dX5_readLetters_94 (by decide) ?_
      obtain rfl := Option.some.inj hs
      exact JJ13
    · have hs := tg_f cc14 hs
      refine tg_aload_n C dX5_readLetters_75 rfl 0 rfl ?_
      refine tg_get (v := .int vv2) C cfX5 0 rfl 5 (by decide) wm_710 rfl dX5_readLetters_76 ?_
      refine tg_bipush (v := 98) C dX5_readLetters_79 (by decide) ?_
      refine tg_icmp_eq (tgt := 93) C dX5_readLetters_81 (by decide) (fun cc15 => ?_) (fun cc15 => ?_)
      · have hs := tg_t cc15 hs
        refine tg_iconst (v := 1) C dX5_readLetters_93 (by decide) ?_
        refine tg_goto (tgt := 98) C dX5_readLetters_94 (by decide) ?_
        obtain rfl := Option.some.inj hs
        exact JJ13
      · have hs := tg_f cc15 hs
        refine tg_aload_n C dX5_readLetters_84 rfl 0 rfl ?_
        refine tg_get (v := .int vv2) C cfX5 0 rfl 5 (by decide) wm_710 rfl dX5_readLetters_85 ?_
        refine tg_bipush (v := 103) C dX5_readLetters_88 (by decide) ?_
        refine tg_icmp_ne (tgt := 97) C dX5_readLetters_90 (by decide) (fun cc16 => ?_) (fun cc16 => ?_)
        · have hs := tg_t cc16 hs
          refine tg_iconst (v := 4) C dX5_readLetters_97 (by decide) ?_
          obtain rfl := Option.some.inj hs
          exact JJ13
        · have hs := tg_nf cc16 hs
          refine tg_iconst (v := 1) C dX5_readLetters_93 (by decide) ?_
          refine tg_goto (tgt := 98) C dX5_readLetters_94 (by decide) ?_
          obtain rfl := Option.some.inj hs
          exact JJ13
set_option maxHeartbeats 2000000 in
set_option maxRecDepth 20000 in
theorem kX5_readLetters (l : Launch) (D : tg_D) (o0 o1 o2 o3 o4 o5 o6 o7 o8 : Nat) (m_text : Nat → Int32) (m_size : Int32) (m_at : Int32) (m_begin : Int32) (m_token : Int32) (m_told : Int32) (m_read : Nat → Int32) (m_harbour : Nat → Int32) (m_now : Nat → Int32) (m_undone : Nat → Int32) (m_undos : Int32) (m_one : Int32) (m_two : Int32) (m_three : Int32) (m_chalks : Int32) (m_cb : Nat → Int32) (m_co : Nat → Int32) (m_trace : Int64) (m_kept : Nat → Int32) (q_m_at : Int32) (q_m_token : Int32) (q_m_told : Int32) (hs : fX5_readLetters m_text m_size m_at m_begin = some (q_m_at, q_m_token, q_m_told)) : Met l yX5_readLetters [Cond.code yX5_readLetters cX5_readLetters 1 none] (tg_rm 2 45) (tg_Pre D (tw_M D o0 o1 o2 o3 o4 o5 o6 o7 o8 m_text m_size m_at m_begin m_token m_told m_read m_harbour m_now m_undone m_undos m_one m_two m_three m_chalks m_cb m_co m_trace m_kept) [.ref o0]) (tg_Qe none D (tw_M D o0 o1 o2 o3 o4 o5 o6 o7 o8 m_text m_size q_m_at m_begin q_m_token q_m_told m_read m_harbour m_now m_undone m_undos m_one m_two m_three m_chalks m_cb m_co m_trace m_kept) (tg_Ad (tw_M D o0 o1 o2 o3 o4 o5 o6 o7 o8 m_text m_size m_at m_begin m_token m_told m_read m_harbour m_now m_undone m_undos m_one m_two m_three m_chalks m_cb m_co m_trace m_kept))) 0 0 (tg_Ad (tw_M D o0 o1 o2 o3 o4 o5 o6 o7 o8 m_text m_size m_at m_begin m_token m_told m_read m_harbour m_now m_undone m_undos m_one m_two m_three m_chalks m_cb m_co m_trace m_kept)) := tg_metEv (by decide) (Nat.le_of_ble_eq_true rfl) (fun X hl0 C V hE => vX5_readLetters l D o0 o1 o2 o3 o4 o5 o6 o7 o8 m_text m_size m_at m_begin m_token m_told m_read m_harbour m_now m_undone m_undos m_one m_two m_three m_chalks m_cb m_co m_trace m_kept X hl0 C V q_m_at q_m_token q_m_told hs hE)
def fX5_readNumber_L2 (m_text : Nat → Int32) (m_size : Int32) : Nat → Int32 → Int32 → Option (Int32 × Int32)
  | 0, _, _ => none
  | fuel + 1, m_at, n1 => if m_size ≤ m_at then (some (m_at, n1)) else (tg_ck m_at 120 <| tg_b1 (fX5_isFigure (m_text (Int32.toNatClampNeg m_at))) fun rr3 => if rr3 = 0 then (some (m_at, n1)) else (tg_b1 (if n1 ≤ 99 then (tg_ck m_at 120 <| some (((10 * n1) + (m_text (Int32.toNatClampNeg m_at))) - 48)) else (some n1)) fun (vv7 : Int32) => tg_nm (m_at + 1) fun vv10 => fX5_readNumber_L2 m_text m_size fuel vv10 vv7))
def fX5_readNumber (m_text : Nat → Int32) (m_size : Int32) (m_at : Int32) (m_begin : Int32) : Option (Int32 × Int32 × Int32) := tg_b2 (fX5_readNumber_L2 m_text m_size 400 m_at 0) fun vv12 vv13 => tg_b1 (if 99 < vv13 then (some (4 : Int32)) else (if (vv12 - m_begin) ≤ 1 then (some (2 : Int32)) else (tg_ck m_begin 120 <| if ¬ (m_text (Int32.toNatClampNeg m_begin)) = 48 then (some (2 : Int32)) else (some (4 : Int32))))) fun (vv16 : Int32) => some (vv12, vv16, vv13)
set_option maxHeartbeats 2000000 in
set_option maxRecDepth 20000 in
theorem vX5_readNumber_L2 (l : Launch) (D : tg_D) (o0 o1 o2 o3 o4 o5 o6 o7 o8 : Nat) (m_text : Nat → Int32) (m_size : Int32) (m_begin : Int32) (m_token : Int32) (m_told : Int32) (m_read : Nat → Int32) (m_harbour : Nat → Int32) (m_now : Nat → Int32) (m_undone : Nat → Int32) (m_undos : Int32) (m_one : Int32) (m_two : Int32) (m_three : Int32) (m_chalks : Int32) (m_cb : Nat → Int32) (m_co : Nat → Int32) (m_trace : Int64) (m_kept : Nat → Int32) (X : tg_X) (hl0 : tg_l X = l) (C : tg_C X D 2 cX5_readNumber RX5 2 45 0 0) (V : tg_V X) (o_m_at : Int32) (o_n1 : Int32) : ∀ (fuel : Nat) (m_at : Int32) (n1 : Int32), fX5_readNumber_L2 m_text m_size fuel m_at n1 = some (o_m_at, o_n1) → tg_G X D 2 0 0 (tw_M D o0 o1 o2 o3 o4 o5 o6 o7 o8 m_text m_size o_m_at m_begin m_token m_told m_read m_harbour m_now m_undone m_undos m_one m_two m_three m_chalks m_cb m_co m_trace m_kept) [(0, .ref o0), (1, .int o_n1)] 69 [] → tg_G X D 2 0 0 (tw_M D o0 o1 o2 o3 o4 o5 o6 o7 o8 m_text m_size m_at m_begin m_token m_told m_read m_harbour m_now m_undone m_undos m_one m_two m_three m_chalks m_cb m_co m_trace m_kept) [(0, .ref o0), (1, .int n1)] 2 [] := by
  intro fuel
  induction fuel with
  | zero =>
    intro m_at n1 hs _
    rw [fX5_readNumber_L2] at hs
    cases hs
  | succ fuel ih =>
    intro m_at n1 hs J
    rw [fX5_readNumber_L2] at hs
    refine tg_aload_n C dX5_readNumber_2 rfl 0 rfl ?_
    refine tg_get (v := .int m_at) C cfX5 0 rfl 2 (by decide) wm_707 rfl dX5_readNumber_3 ?_
    refine tg_aload_n C dX5_readNumber_6 rfl 0 rfl ?_
    refine tg_get (v := .int m_size) C cfX5 0 rfl 1 (by decide) wm_706 rfl dX5_readNumber_7 ?_
    refine tg_icmp_ge (tgt := 69) C dX5_readNumber_10 (by decide) (fun cc1 => ?_) (fun cc1 => ?_)
    · have hs := tg_t cc1 hs
      obtain ⟨rfl, rfl⟩ := tg_i2 hs
      exact J
    · have hs := tg_f cc1 hs
      refine tg_aload_n C dX5_readNumber_13 rfl 0 rfl ?_
      refine tg_get (v := .ref o1) C cfX5 0 rfl 0 (by decide) wm_705 rfl dX5_readNumber_14 ?_
      refine tg_aload_n C dX5_readNumber_17 rfl 0 rfl ?_
      refine tg_get (v := .int m_at) C cfX5 0 rfl 2 (by decide) wm_707 rfl dX5_readNumber_18 ?_
      obtain ⟨hh2, hs⟩ := tg_ck_e hs
      refine tg_iald C 1 0 rfl rfl hh2 dX5_readNumber_21 ?_
      obtain ⟨rr3, ee4, hs⟩ := tg_b1_e hs
      refine tg_pS (As := [.int (m_text (Int32.toNatClampNeg m_at))]) (rest := []) C hl0 (kX5_isFigure l D (m_text (Int32.toNatClampNeg m_at)) rr3 ee4) wm_792 meX5_isFigure (by decide) rfl rfl (Nat.le_of_ble_eq_true rfl) dX5_readNumber_22 ?_
      refine tg_if_eq (tgt := 69) C dX5_readNumber_25 (by decide) (fun cc5 => ?_) (fun cc5 => ?_)
      · have hs := tg_t cc5 hs
        obtain ⟨rfl, rfl⟩ := tg_i2 hs
        exact J
      · have hs := tg_f cc5 hs
        refine tg_iload_n C dX5_readNumber_28 rfl 1 rfl ?_
        refine tg_bipush (v := 99) C dX5_readNumber_29 (by decide) ?_
        obtain ⟨vv7, ee11, hs⟩ := tg_b1_e hs
        have JJ8 : tg_G X D 2 0 0 (tw_M D o0 o1 o2 o3 o4 o5 o6 o7 o8 m_text m_size m_at m_begin m_token m_told m_read m_harbour m_now m_undone m_undos m_one m_two m_three m_chalks m_cb m_co m_trace m_kept) [(0, .ref o0), (1, .int n1)] 55 [.int vv7] := by
          refine tg_istore_n (lv' := [(1, .int vv7), (0, .ref o0)]) C dX5_readNumber_55 rfl (by decide) rfl ?_
          refine tg_aload_n C dX5_readNumber_56 rfl 1 rfl ?_
          refine tg_dup C dX5_readNumber_57 rfl ?_
          refine tg_get (v := .int m_at) C cfX5 0 rfl 2 (by decide) wm_707 rfl dX5_readNumber_58 ?_
          refine tg_iconst (v := 1) C dX5_readNumber_61 (by decide) ?_
          refine tg_iadd C dX5_readNumber_62 ?_
          obtain ⟨vv10, evv10, hs⟩ := tg_nm_e hs
          refine tg_topi evv10 ?_
          refine tg_put (ws' := (tw_M D o0 o1 o2 o3 o4 o5 o6 o7 o8 m_text m_size vv10 m_begin m_token m_told m_read m_harbour m_now m_undone m_undos m_one m_two m_three m_chalks m_cb m_co m_trace m_kept)) C V cfX5 0 rfl 2 (by decide) wm_707 rfl rfl rfl (Nat.le_of_ble_eq_true rfl) rfl dX5_readNumber_63 ?_
          refine tg_goto (tgt := 2) C dX5_readNumber_66 (by decide) ?_
          refine tg_lsub [1, 0] rfl ?_
          exact ih vv10 vv7 hs J
        have hs := ee11
        clear ee11
        refine tg_icmp_le (tgt := 38) C dX5_readNumber_31 (by decide) (fun cc6 => ?_) (fun cc6 => ?_)
        · have hs := tg_t cc6 hs
          refine tg_bipush (v := 10) C dX5_readNumber_38 (by decide) ?_
          refine tg_iload_n C dX5_readNumber_40 rfl 1 rfl ?_
          refine tg_imul C dX5_readNumber_41 ?_
          refine tg_aload_n C dX5_readNumber_42 rfl 0 rfl ?_
          refine tg_get (v := .ref o1) C cfX5 0 rfl 0 (by decide) wm_705 rfl dX5_readNumber_43 ?_
          refine tg_aload_n C dX5_readNumber_46 rfl 0 rfl ?_
          refine tg_get (v := .int m_at) C cfX5 0 rfl 2 (by decide) wm_707 rfl dX5_readNumber_47 ?_
          obtain ⟨hh9, hs⟩ := tg_ck_e hs
          refine tg_iald C 1 0 rfl rfl hh9 dX5_readNumber_50 ?_
          refine tg_iadd C dX5_readNumber_51 ?_
          refine tg_bipush (v := 48) C dX5_readNumber_52 (by decide) ?_
          refine tg_isub C dX5_readNumber_54 ?_
          obtain rfl := Option.some.inj hs
          exact JJ8
        · have hs := tg_f cc6 hs
          refine tg_iload_n C dX5_readNumber_34 rfl 1 rfl ?_
          refine tg_goto (tgt := 55) C dX5_readNumber_35 (by decide) ?_
          obtain rfl := Option.some.inj hs
          exact JJ8
set_option maxHeartbeats 2000000 in
set_option maxRecDepth 20000 in
theorem vX5_readNumber (l : Launch) (D : tg_D) (o0 o1 o2 o3 o4 o5 o6 o7 o8 : Nat) (m_text : Nat → Int32) (m_size : Int32) (m_at : Int32) (m_begin : Int32) (m_token : Int32) (m_told : Int32) (m_read : Nat → Int32) (m_harbour : Nat → Int32) (m_now : Nat → Int32) (m_undone : Nat → Int32) (m_undos : Int32) (m_one : Int32) (m_two : Int32) (m_three : Int32) (m_chalks : Int32) (m_cb : Nat → Int32) (m_co : Nat → Int32) (m_trace : Int64) (m_kept : Nat → Int32) (X : tg_X) (hl0 : tg_l X = l) (C : tg_C X D 2 cX5_readNumber RX5 2 45 0 0) (V : tg_V X) (q_m_at : Int32) (q_m_token : Int32) (q_m_told : Int32) (hs : fX5_readNumber m_text m_size m_at m_begin = some (q_m_at, q_m_token, q_m_told)) (hE : tg_Ev X D 0 0 cX5_readNumber (tw_M D o0 o1 o2 o3 o4 o5 o6 o7 o8 m_text m_size q_m_at m_begin q_m_token q_m_told m_read m_harbour m_now m_undone m_undos m_one m_two m_three m_chalks m_cb m_co m_trace m_kept)) : tg_G X D 2 0 0 (tw_M D o0 o1 o2 o3 o4 o5 o6 o7 o8 m_text m_size m_at m_begin m_token m_told m_read m_harbour m_now m_undone m_undos m_one m_two m_three m_chalks m_cb m_co m_trace m_kept) [(0, .ref o0)] 0 [] := by
  unfold fX5_readNumber at hs
  refine tg_iconst (v := 0) C dX5_readNumber_0 (by decide) ?_
  refine tg_istore_n (lv' := [(1, .int 0), (0, .ref o0)]) C dX5_readNumber_1 rfl (by decide) rfl ?_
  refine tg_lsub [1, 0] rfl ?_
  obtain ⟨vv12, vv13, ee14, hs⟩ := tg_b2_e hs
  refine vX5_readNumber_L2 l D o0 o1 o2 o3 o4 o5 o6 o7 o8 m_text m_size m_begin m_token m_told m_read m_harbour m_now m_undone m_undos m_one m_two m_three m_chalks m_cb m_co m_trace m_kept X hl0 C V vv12 vv13 400 m_at 0 ee14 ?_
  refine tg_aload_n C dX5_readNumber_69 rfl 0 rfl ?_
  refine tg_iload_n C dX5_readNumber_70 rfl 1 rfl ?_
  refine tg_bipush (v := 99) C dX5_readNumber_71 (by decide) ?_
  obtain ⟨vv16, ee21, hs⟩ := tg_b1_e hs
  have JJ17 : tg_G X D 2 0 0 (tw_M D o0 o1 o2 o3 o4 o5 o6 o7 o8 m_text m_size vv12 m_begin m_token m_told m_read m_harbour m_now m_undone m_undos m_one m_two m_three m_chalks m_cb m_co m_trace m_kept) [(0, .ref o0), (1, .int vv13)] 108 [.int vv16, .ref o0] := by
    refine tg_put (ws' := (tw_M D o0 o1 o2 o3 o4 o5 o6 o7 o8 m_text m_size vv12 m_begin vv16 m_told m_read m_harbour m_now m_undone m_undos m_one m_two m_three m_chalks m_cb m_co m_trace m_kept)) C V cfX5 0 rfl 4 (by decide) wm_709 rfl rfl rfl (Nat.le_of_ble_eq_true rfl) rfl dX5_readNumber_108 ?_
    refine tg_aload_n C dX5_readNumber_111 rfl 0 rfl ?_
    refine tg_iload_n C dX5_readNumber_112 rfl 1 rfl ?_
    refine tg_put (ws' := (tw_M D o0 o1 o2 o3 o4 o5 o6 o7 o8 m_text m_size vv12 m_begin vv16 vv13 m_read m_harbour m_now m_undone m_undos m_one m_two m_three m_chalks m_cb m_co m_trace m_kept)) C V cfX5 0 rfl 5 (by decide) wm_710 rfl rfl rfl (Nat.le_of_ble_eq_true rfl) rfl dX5_readNumber_113 ?_
    obtain ⟨rfl, rfl, rfl⟩ := tg_i3 hs
    exact tg_vret hE dX5_readNumber_116
  have hs := ee21
  clear ee21
  refine tg_icmp_gt (tgt := 103) C dX5_readNumber_73 (by decide) (fun cc15 => ?_) (fun cc15 => ?_)
  · have hs := tg_t cc15 hs
    refine tg_iconst (v := 4) C dX5_readNumber_103 (by decide) ?_
    refine tg_goto (tgt := 108) C dX5_readNumber_104 (by decide) ?_
    obtain rfl := Option.some.inj hs
    exact JJ17
  · have hs := tg_f cc15 hs
    refine tg_aload_n C dX5_readNumber_76 rfl 0 rfl ?_
    refine tg_get (v := .int vv12) C cfX5 0 rfl 2 (by decide) wm_707 rfl dX5_readNumber_77 ?_
    refine tg_aload_n C dX5_readNumber_80 rfl 0 rfl ?_
    refine tg_get (v := .int m_begin) C cfX5 0 rfl 3 (by decide) wm_708 rfl dX5_readNumber_81 ?_
    refine tg_isub C dX5_readNumber_84 ?_
    refine tg_iconst (v := 1) C dX5_readNumber_85 (by decide) ?_
    refine tg_icmp_le (tgt := 107) C dX5_readNumber_86 (by decide) (fun cc18 => ?_) (fun cc18 => ?_)
    · have hs := tg_t cc18 hs
      refine tg_iconst (v := 2) C dX5_readNumber_107 (by decide) ?_
      obtain rfl := Option.some.inj hs
      exact JJ17
    · have hs := tg_f cc18 hs
      refine tg_aload_n C dX5_readNumber_89 rfl 0 rfl ?_
      refine tg_get (v := .ref o1) C cfX5 0 rfl 0 (by decide) wm_705 rfl dX5_readNumber_90 ?_
      refine tg_aload_n C dX5_readNumber_93 rfl 0 rfl ?_
      refine tg_get (v := .int m_begin) C cfX5 0 rfl 3 (by decide) wm_708 rfl dX5_readNumber_94 ?_
      obtain ⟨hh19, hs⟩ := tg_ck_e hs
      refine tg_iald C 1 0 rfl rfl hh19 dX5_readNumber_97 ?_
      refine tg_bipush (v := 48) C dX5_readNumber_98 (by decide) ?_
      refine tg_icmp_ne (tgt := 107) C dX5_readNumber_100 (by decide) (fun cc20 => ?_) (fun cc20 => ?_)
      · have hs := tg_t cc20 hs
        refine tg_iconst (v := 2) C dX5_readNumber_107 (by decide) ?_
        obtain rfl := Option.some.inj hs
        exact JJ17
      · have hs := tg_nf cc20 hs
        refine tg_iconst (v := 4) C dX5_readNumber_103 (by decide) ?_
        refine tg_goto (tgt := 108) C dX5_readNumber_104 (by decide) ?_
        obtain rfl := Option.some.inj hs
        exact JJ17
set_option maxHeartbeats 2000000 in
set_option maxRecDepth 20000 in
theorem kX5_readNumber (l : Launch) (D : tg_D) (o0 o1 o2 o3 o4 o5 o6 o7 o8 : Nat) (m_text : Nat → Int32) (m_size : Int32) (m_at : Int32) (m_begin : Int32) (m_token : Int32) (m_told : Int32) (m_read : Nat → Int32) (m_harbour : Nat → Int32) (m_now : Nat → Int32) (m_undone : Nat → Int32) (m_undos : Int32) (m_one : Int32) (m_two : Int32) (m_three : Int32) (m_chalks : Int32) (m_cb : Nat → Int32) (m_co : Nat → Int32) (m_trace : Int64) (m_kept : Nat → Int32) (q_m_at : Int32) (q_m_token : Int32) (q_m_told : Int32) (hs : fX5_readNumber m_text m_size m_at m_begin = some (q_m_at, q_m_token, q_m_told)) : Met l yX5_readNumber [Cond.code yX5_readNumber cX5_readNumber 2 none] (tg_rm 2 45) (tg_Pre D (tw_M D o0 o1 o2 o3 o4 o5 o6 o7 o8 m_text m_size m_at m_begin m_token m_told m_read m_harbour m_now m_undone m_undos m_one m_two m_three m_chalks m_cb m_co m_trace m_kept) [.ref o0]) (tg_Qe none D (tw_M D o0 o1 o2 o3 o4 o5 o6 o7 o8 m_text m_size q_m_at m_begin q_m_token q_m_told m_read m_harbour m_now m_undone m_undos m_one m_two m_three m_chalks m_cb m_co m_trace m_kept) (tg_Ad (tw_M D o0 o1 o2 o3 o4 o5 o6 o7 o8 m_text m_size m_at m_begin m_token m_told m_read m_harbour m_now m_undone m_undos m_one m_two m_three m_chalks m_cb m_co m_trace m_kept))) 0 0 (tg_Ad (tw_M D o0 o1 o2 o3 o4 o5 o6 o7 o8 m_text m_size m_at m_begin m_token m_told m_read m_harbour m_now m_undone m_undos m_one m_two m_three m_chalks m_cb m_co m_trace m_kept)) := tg_metEv (by decide) (Nat.le_of_ble_eq_true rfl) (fun X hl0 C V hE => vX5_readNumber l D o0 o1 o2 o3 o4 o5 o6 o7 o8 m_text m_size m_at m_begin m_token m_told m_read m_harbour m_now m_undone m_undos m_one m_two m_three m_chalks m_cb m_co m_trace m_kept X hl0 C V q_m_at q_m_token q_m_told hs hE)
def fX5_reads_L0 (m_text : Nat → Int32) (m_size : Int32) : Nat → Int32 → Option (Int32)
  | 0, _ => none
  | fuel + 1, m_at => if m_size ≤ m_at then (some m_at) else (tg_ck m_at 120 <| if ¬ (m_text (Int32.toNatClampNeg m_at)) = 32 then (some m_at) else (tg_nm (m_at + 1) fun vv4 => fX5_reads_L0 m_text m_size fuel vv4))
def fX5_reads (m_text : Nat → Int32) (m_size : Int32) (m_at : Int32) (m_told : Int32) : Option (Int32 × Int32 × Int32 × Int32) := tg_b1 (fX5_reads_L0 m_text m_size 400 m_at) fun vv5 => if ¬ vv5 = m_size then (tg_ck vv5 120 <| tg_b1 (fX5_isLetter (m_text (Int32.toNatClampNeg vv5))) fun rr9 => if rr9 = 0 then (tg_ck vv5 120 <| tg_b1 (fX5_isFigure (m_text (Int32.toNatClampNeg vv5))) fun rr13 => if rr13 = 0 then (tg_ck vv5 120 <| tg_b1 (if ¬ (m_text (Int32.toNatClampNeg vv5)) = 59 then (some (4 : Int32)) else (some (3 : Int32))) fun (vv18 : Int32) => tg_b1 (if ¬ vv18 = 3 then (some (0 : Int32)) else (some (1 : Int32))) fun (vv21 : Int32) => tg_nm (vv5 + vv21) fun vv23 => some (vv23, vv5, vv18, m_told)) else (tg_b3 (fX5_readNumber m_text m_size vv5 vv5) fun vv26 vv27 vv28 => some (vv26, vv5, vv27, vv28))) else (tg_b3 (fX5_readLetters m_text m_size vv5 vv5) fun vv30 vv31 vv32 => some (vv30, vv5, vv31, vv32))) else (some (vv5, vv5, 0, m_told))
set_option maxHeartbeats 2000000 in
set_option maxRecDepth 20000 in
theorem vX5_reads_L0 (l : Launch) (D : tg_D) (o0 o1 o2 o3 o4 o5 o6 o7 o8 : Nat) (m_text : Nat → Int32) (m_size : Int32) (m_begin : Int32) (m_token : Int32) (m_told : Int32) (m_read : Nat → Int32) (m_harbour : Nat → Int32) (m_now : Nat → Int32) (m_undone : Nat → Int32) (m_undos : Int32) (m_one : Int32) (m_two : Int32) (m_three : Int32) (m_chalks : Int32) (m_cb : Nat → Int32) (m_co : Nat → Int32) (m_trace : Int64) (m_kept : Nat → Int32) (X : tg_X) (hl0 : tg_l X = l) (C : tg_C X D 1 cX5_reads RX5 3 66 0 0) (V : tg_V X) (o_m_at : Int32) : ∀ (fuel : Nat) (m_at : Int32), fX5_reads_L0 m_text m_size fuel m_at = some o_m_at → tg_G X D 1 0 0 (tw_M D o0 o1 o2 o3 o4 o5 o6 o7 o8 m_text m_size o_m_at m_begin m_token m_told m_read m_harbour m_now m_undone m_undos m_one m_two m_three m_chalks m_cb m_co m_trace m_kept) [(0, .ref o0)] 38 [] → tg_G X D 1 0 0 (tw_M D o0 o1 o2 o3 o4 o5 o6 o7 o8 m_text m_size m_at m_begin m_token m_told m_read m_harbour m_now m_undone m_undos m_one m_two m_three m_chalks m_cb m_co m_trace m_kept) [(0, .ref o0)] 0 [] := by
  intro fuel
  induction fuel with
  | zero =>
    intro m_at hs _
    rw [fX5_reads_L0] at hs
    cases hs
  | succ fuel ih =>
    intro m_at hs J
    rw [fX5_reads_L0] at hs
    refine tg_aload_n C dX5_reads_0 rfl 0 rfl ?_
    refine tg_get (v := .int m_at) C cfX5 0 rfl 2 (by decide) wm_707 rfl dX5_reads_1 ?_
    refine tg_aload_n C dX5_reads_4 rfl 0 rfl ?_
    refine tg_get (v := .int m_size) C cfX5 0 rfl 1 (by decide) wm_706 rfl dX5_reads_5 ?_
    refine tg_icmp_ge (tgt := 38) C dX5_reads_8 (by decide) (fun cc1 => ?_) (fun cc1 => ?_)
    · have hs := tg_t cc1 hs
      obtain rfl := Option.some.inj hs
      exact J
    · have hs := tg_f cc1 hs
      refine tg_aload_n C dX5_reads_11 rfl 0 rfl ?_
      refine tg_get (v := .ref o1) C cfX5 0 rfl 0 (by decide) wm_705 rfl dX5_reads_12 ?_
      refine tg_aload_n C dX5_reads_15 rfl 0 rfl ?_
      refine tg_get (v := .int m_at) C cfX5 0 rfl 2 (by decide) wm_707 rfl dX5_reads_16 ?_
      obtain ⟨hh2, hs⟩ := tg_ck_e hs
      refine tg_iald C 1 0 rfl rfl hh2 dX5_reads_19 ?_
      refine tg_bipush (v := 32) C dX5_reads_20 (by decide) ?_
      refine tg_icmp_ne (tgt := 38) C dX5_reads_22 (by decide) (fun cc3 => ?_) (fun cc3 => ?_)
      · have hs := tg_t cc3 hs
        obtain rfl := Option.some.inj hs
        exact J
      · have hs := tg_nf cc3 hs
        refine tg_aload_n C dX5_reads_25 rfl 0 rfl ?_
        refine tg_dup C dX5_reads_26 rfl ?_
        refine tg_get (v := .int m_at) C cfX5 0 rfl 2 (by decide) wm_707 rfl dX5_reads_27 ?_
        refine tg_iconst (v := 1) C dX5_reads_30 (by decide) ?_
        refine tg_iadd C dX5_reads_31 ?_
        obtain ⟨vv4, evv4, hs⟩ := tg_nm_e hs
        refine tg_topi evv4 ?_
        refine tg_put (ws' := (tw_M D o0 o1 o2 o3 o4 o5 o6 o7 o8 m_text m_size vv4 m_begin m_token m_told m_read m_harbour m_now m_undone m_undos m_one m_two m_three m_chalks m_cb m_co m_trace m_kept)) C V cfX5 0 rfl 2 (by decide) wm_707 rfl rfl rfl (Nat.le_of_ble_eq_true rfl) rfl dX5_reads_32 ?_
        refine tg_goto (tgt := 0) C dX5_reads_35 (by decide) ?_
        exact ih vv4 hs J
set_option maxHeartbeats 2000000 in
set_option maxRecDepth 20000 in
theorem vX5_reads (l : Launch) (D : tg_D) (o0 o1 o2 o3 o4 o5 o6 o7 o8 : Nat) (m_text : Nat → Int32) (m_size : Int32) (m_at : Int32) (m_begin : Int32) (m_token : Int32) (m_told : Int32) (m_read : Nat → Int32) (m_harbour : Nat → Int32) (m_now : Nat → Int32) (m_undone : Nat → Int32) (m_undos : Int32) (m_one : Int32) (m_two : Int32) (m_three : Int32) (m_chalks : Int32) (m_cb : Nat → Int32) (m_co : Nat → Int32) (m_trace : Int64) (m_kept : Nat → Int32) (X : tg_X) (hl0 : tg_l X = l) (C : tg_C X D 1 cX5_reads RX5 3 66 0 0) (V : tg_V X) (q_m_at : Int32) (q_m_begin : Int32) (q_m_token : Int32) (q_m_told : Int32) (hs : fX5_reads m_text m_size m_at m_told = some (q_m_at, q_m_begin, q_m_token, q_m_told)) (hE : tg_Ev X D 0 0 cX5_reads (tw_M D o0 o1 o2 o3 o4 o5 o6 o7 o8 m_text m_size q_m_at q_m_begin q_m_token q_m_told m_read m_harbour m_now m_undone m_undos m_one m_two m_three m_chalks m_cb m_co m_trace m_kept)) : tg_G X D 1 0 0 (tw_M D o0 o1 o2 o3 o4 o5 o6 o7 o8 m_text m_size m_at m_begin m_token m_told m_read m_harbour m_now m_undone m_undos m_one m_two m_three m_chalks m_cb m_co m_trace m_kept) [(0, .ref o0)] 0 [] := by
  unfold fX5_reads at hs
  obtain ⟨vv5, ee6, hs⟩ := tg_b1_e hs
  refine vX5_reads_L0 l D o0 o1 o2 o3 o4 o5 o6 o7 o8 m_text m_size m_begin m_token m_told m_read m_harbour m_now m_undone m_undos m_one m_two m_three m_chalks m_cb m_co m_trace m_kept X hl0 C V vv5 400 m_at ee6 ?_
  refine tg_aload_n C dX5_reads_38 rfl 0 rfl ?_
  refine tg_aload_n C dX5_reads_39 rfl 0 rfl ?_
  refine tg_get (v := .int vv5) C cfX5 0 rfl 2 (by decide) wm_707 rfl dX5_reads_40 ?_
  refine tg_put (ws' := (tw_M D o0 o1 o2 o3 o4 o5 o6 o7 o8 m_text m_size vv5 vv5 m_token m_told m_read m_harbour m_now m_undone m_undos m_one m_two m_three m_chalks m_cb m_co m_trace m_kept)) C V cfX5 0 rfl 3 (by decide) wm_708 rfl rfl rfl (Nat.le_of_ble_eq_true rfl) rfl dX5_reads_43 ?_
  refine tg_aload_n C dX5_reads_46 rfl 0 rfl ?_
  refine tg_get (v := .int vv5) C cfX5 0 rfl 2 (by decide) wm_707 rfl dX5_reads_47 ?_
  refine tg_aload_n C dX5_reads_50 rfl 0 rfl ?_
  refine tg_get (v := .int m_size) C cfX5 0 rfl 1 (by decide) wm_706 rfl dX5_reads_51 ?_
  refine tg_icmp_ne (tgt := 65) C dX5_reads_54 (by decide) (fun cc7 => ?_) (fun cc7 => ?_)
  · have hs := tg_t cc7 hs
    refine tg_aload_n C dX5_reads_65 rfl 0 rfl ?_
    refine tg_get (v := .ref o1) C cfX5 0 rfl 0 (by decide) wm_705 rfl dX5_reads_66 ?_
    refine tg_aload_n C dX5_reads_69 rfl 0 rfl ?_
    refine tg_get (v := .int vv5) C cfX5 0 rfl 2 (by decide) wm_707 rfl dX5_reads_70 ?_
    obtain ⟨hh8, hs⟩ := tg_ck_e hs
    refine tg_iald C 1 0 rfl rfl hh8 dX5_reads_73 ?_
    obtain ⟨rr9, ee10, hs⟩ := tg_b1_e hs
    refine tg_pS (As := [.int (m_text (Int32.toNatClampNeg vv5))]) (rest := []) C hl0 (kX5_isLetter l D (m_text (Int32.toNatClampNeg vv5)) rr9 ee10) wm_783 meX5_isLetter (by decide) rfl rfl (Nat.le_of_ble_eq_true rfl) dX5_reads_74 ?_
    refine tg_if_eq (tgt := 87) C dX5_reads_77 (by decide) (fun cc11 => ?_) (fun cc11 => ?_)
    · have hs := tg_t cc11 hs
      refine tg_aload_n C dX5_reads_87 rfl 0 rfl ?_
      refine tg_get (v := .ref o1) C cfX5 0 rfl 0 (by decide) wm_705 rfl dX5_reads_88 ?_
      refine tg_aload_n C dX5_reads_91 rfl 0 rfl ?_
      refine tg_get (v := .int vv5) C cfX5 0 rfl 2 (by decide) wm_707 rfl dX5_reads_92 ?_
      obtain ⟨hh12, hs⟩ := tg_ck_e hs
      refine tg_iald C 1 0 rfl rfl hh12 dX5_reads_95 ?_
      obtain ⟨rr13, ee14, hs⟩ := tg_b1_e hs
      refine tg_pS (As := [.int (m_text (Int32.toNatClampNeg vv5))]) (rest := []) C hl0 (kX5_isFigure l D (m_text (Int32.toNatClampNeg vv5)) rr13 ee14) wm_792 meX5_isFigure (by decide) rfl rfl (Nat.le_of_ble_eq_true rfl) dX5_reads_96 ?_
      refine tg_if_eq (tgt := 109) C dX5_reads_99 (by decide) (fun cc15 => ?_) (fun cc15 => ?_)
      · have hs := tg_t cc15 hs
        refine tg_aload_n C dX5_reads_109 rfl 0 rfl ?_
        refine tg_aload_n C dX5_reads_110 rfl 0 rfl ?_
        refine tg_get (v := .ref o1) C cfX5 0 rfl 0 (by decide) wm_705 rfl dX5_reads_111 ?_
        refine tg_aload_n C dX5_reads_114 rfl 0 rfl ?_
        refine tg_get (v := .int vv5) C cfX5 0 rfl 2 (by decide) wm_707 rfl dX5_reads_115 ?_
        obtain ⟨hh16, hs⟩ := tg_ck_e hs
        refine tg_iald C 1 0 rfl rfl hh16 dX5_reads_118 ?_
        refine tg_bipush (v := 59) C dX5_reads_119 (by decide) ?_
        obtain ⟨vv18, ee25, hs⟩ := tg_b1_e hs
        have JJ19 : tg_G X D 1 0 0 (tw_M D o0 o1 o2 o3 o4 o5 o6 o7 o8 m_text m_size vv5 vv5 m_token m_told m_read m_harbour m_now m_undone m_undos m_one m_two m_three m_chalks m_cb m_co m_trace m_kept) [(0, .ref o0)] 129 [.int vv18, .ref o0] := by
          refine tg_put (ws' := (tw_M D o0 o1 o2 o3 o4 o5 o6 o7 o8 m_text m_size vv5 vv5 vv18 m_told m_read m_harbour m_now m_undone m_undos m_one m_two m_three m_chalks m_cb m_co m_trace m_kept)) C V cfX5 0 rfl 4 (by decide) wm_709 rfl rfl rfl (Nat.le_of_ble_eq_true rfl) rfl dX5_reads_129 ?_
          refine tg_aload_n C dX5_reads_132 rfl 0 rfl ?_
          refine tg_dup C dX5_reads_133 rfl ?_
          refine tg_get (v := .int vv5) C cfX5 0 rfl 2 (by decide) wm_707 rfl dX5_reads_134 ?_
          refine tg_aload_n C dX5_reads_137 rfl 0 rfl ?_
          refine tg_get (v := .int vv18) C cfX5 0 rfl 4 (by decide) wm_709 rfl dX5_reads_138 ?_
          refine tg_iconst (v := 3) C dX5_reads_141 (by decide) ?_
          obtain ⟨vv21, ee24, hs⟩ := tg_b1_e hs
          have JJ22 : tg_G X D 1 0 0 (tw_M D o0 o1 o2 o3 o4 o5 o6 o7 o8 m_text m_size vv5 vv5 vv18 m_told m_read m_harbour m_now m_undone m_undos m_one m_two m_three m_chalks m_cb m_co m_trace m_kept) [(0, .ref o0)] 150 [.int vv21, .int vv5, .ref o0] := by
            refine tg_iadd C dX5_reads_150 ?_
            obtain ⟨vv23, evv23, hs⟩ := tg_nm_e hs
            refine tg_topi evv23 ?_
            refine tg_put (ws' := (tw_M D o0 o1 o2 o3 o4 o5 o6 o7 o8 m_text m_size vv23 vv5 vv18 m_told m_read m_harbour m_now m_undone m_undos m_one m_two m_three m_chalks m_cb m_co m_trace m_kept)) C V cfX5 0 rfl 2 (by decide) wm_707 rfl rfl rfl (Nat.le_of_ble_eq_true rfl) rfl dX5_reads_151 ?_
            obtain ⟨rfl, rfl, rfl, rfl⟩ := tg_i4 hs
            exact tg_vret hE dX5_reads_154
          have hs := ee24
          clear ee24
          refine tg_icmp_ne (tgt := 149) C dX5_reads_142 (by decide) (fun cc20 => ?_) (fun cc20 => ?_)
          · have hs := tg_t cc20 hs
            refine tg_iconst (v := 0) C dX5_reads_149 (by decide) ?_
            obtain rfl := Option.some.inj hs
            exact JJ22
          · have hs := tg_nf cc20 hs
            refine tg_iconst (v := 1) C dX5_reads_145 (by decide) ?_
            refine tg_goto (tgt := 150) C dX5_reads_146 (by decide) ?_
            obtain rfl := Option.some.inj hs
            exact JJ22
        have hs := ee25
        clear ee25
        refine tg_icmp_ne (tgt := 128) C dX5_reads_121 (by decide) (fun cc17 => ?_) (fun cc17 => ?_)
        · have hs := tg_t cc17 hs
          refine tg_iconst (v := 4) C dX5_reads_128 (by decide) ?_
          obtain rfl := Option.some.inj hs
          exact JJ19
        · have hs := tg_nf cc17 hs
          refine tg_iconst (v := 3) C dX5_reads_124 (by decide) ?_
          refine tg_goto (tgt := 129) C dX5_reads_125 (by decide) ?_
          obtain rfl := Option.some.inj hs
          exact JJ19
      · have hs := tg_f cc15 hs
        refine tg_aload_n C dX5_reads_102 rfl 0 rfl ?_
        obtain ⟨vv26, vv27, vv28, ee29, hs⟩ := tg_b3_e hs
        refine tg_eVs (ws' := (tw_M D o0 o1 o2 o3 o4 o5 o6 o7 o8 m_text m_size vv26 vv5 vv27 vv28 m_read m_harbour m_now m_undone m_undos m_one m_two m_three m_chalks m_cb m_co m_trace m_kept)) (As := []) (rest := []) C V hl0 (kX5_readNumber l D o0 o1 o2 o3 o4 o5 o6 o7 o8 m_text m_size vv5 vv5 m_token m_told m_read m_harbour m_now m_undone m_undos m_one m_two m_three m_chalks m_cb m_co m_trace m_kept vv26 vv27 vv28 ee29) wm_797 meX5_readNumber (by decide) rfl rfl rfl rfl (Nat.le_of_ble_eq_true rfl) rfl dX5_reads_103 ?_
        refine tg_goto (tgt := 154) C dX5_reads_106 (by decide) ?_
        obtain ⟨rfl, rfl, rfl, rfl⟩ := tg_i4 hs
        exact tg_vret hE dX5_reads_154
    · have hs := tg_f cc11 hs
      refine tg_aload_n C dX5_reads_80 rfl 0 rfl ?_
      obtain ⟨vv30, vv31, vv32, ee33, hs⟩ := tg_b3_e hs
      refine tg_eVs (ws' := (tw_M D o0 o1 o2 o3 o4 o5 o6 o7 o8 m_text m_size vv30 vv5 vv31 vv32 m_read m_harbour m_now m_undone m_undos m_one m_two m_three m_chalks m_cb m_co m_trace m_kept)) (As := []) (rest := []) C V hl0 (kX5_readLetters l D o0 o1 o2 o3 o4 o5 o6 o7 o8 m_text m_size vv5 vv5 m_token m_told m_read m_harbour m_now m_undone m_undos m_one m_two m_three m_chalks m_cb m_co m_trace m_kept vv30 vv31 vv32 ee33) wm_788 meX5_readLetters (by decide) rfl rfl rfl rfl (Nat.le_of_ble_eq_true rfl) rfl dX5_reads_81 ?_
      refine tg_goto (tgt := 154) C dX5_reads_84 (by decide) ?_
      obtain ⟨rfl, rfl, rfl, rfl⟩ := tg_i4 hs
      exact tg_vret hE dX5_reads_154
  · have hs := tg_nf cc7 hs
    refine tg_aload_n C dX5_reads_57 rfl 0 rfl ?_
    refine tg_iconst (v := 0) C dX5_reads_58 (by decide) ?_
    refine tg_put (ws' := (tw_M D o0 o1 o2 o3 o4 o5 o6 o7 o8 m_text m_size vv5 vv5 0 m_told m_read m_harbour m_now m_undone m_undos m_one m_two m_three m_chalks m_cb m_co m_trace m_kept)) C V cfX5 0 rfl 4 (by decide) wm_709 rfl rfl rfl (Nat.le_of_ble_eq_true rfl) rfl dX5_reads_59 ?_
    refine tg_goto (tgt := 154) C dX5_reads_62 (by decide) ?_
    obtain ⟨rfl, rfl, rfl, rfl⟩ := tg_i4 hs
    exact tg_vret hE dX5_reads_154
set_option maxHeartbeats 2000000 in
set_option maxRecDepth 20000 in
theorem kX5_reads (l : Launch) (D : tg_D) (o0 o1 o2 o3 o4 o5 o6 o7 o8 : Nat) (m_text : Nat → Int32) (m_size : Int32) (m_at : Int32) (m_begin : Int32) (m_token : Int32) (m_told : Int32) (m_read : Nat → Int32) (m_harbour : Nat → Int32) (m_now : Nat → Int32) (m_undone : Nat → Int32) (m_undos : Int32) (m_one : Int32) (m_two : Int32) (m_three : Int32) (m_chalks : Int32) (m_cb : Nat → Int32) (m_co : Nat → Int32) (m_trace : Int64) (m_kept : Nat → Int32) (q_m_at : Int32) (q_m_begin : Int32) (q_m_token : Int32) (q_m_told : Int32) (hs : fX5_reads m_text m_size m_at m_told = some (q_m_at, q_m_begin, q_m_token, q_m_told)) : Met l yX5_reads [Cond.code yX5_reads cX5_reads 1 none] (tg_rm 3 66) (tg_Pre D (tw_M D o0 o1 o2 o3 o4 o5 o6 o7 o8 m_text m_size m_at m_begin m_token m_told m_read m_harbour m_now m_undone m_undos m_one m_two m_three m_chalks m_cb m_co m_trace m_kept) [.ref o0]) (tg_Qe none D (tw_M D o0 o1 o2 o3 o4 o5 o6 o7 o8 m_text m_size q_m_at q_m_begin q_m_token q_m_told m_read m_harbour m_now m_undone m_undos m_one m_two m_three m_chalks m_cb m_co m_trace m_kept) (tg_Ad (tw_M D o0 o1 o2 o3 o4 o5 o6 o7 o8 m_text m_size m_at m_begin m_token m_told m_read m_harbour m_now m_undone m_undos m_one m_two m_three m_chalks m_cb m_co m_trace m_kept))) 0 0 (tg_Ad (tw_M D o0 o1 o2 o3 o4 o5 o6 o7 o8 m_text m_size m_at m_begin m_token m_told m_read m_harbour m_now m_undone m_undos m_one m_two m_three m_chalks m_cb m_co m_trace m_kept)) := tg_metEv (by decide) (Nat.le_of_ble_eq_true rfl) (fun X hl0 C V hE => vX5_reads l D o0 o1 o2 o3 o4 o5 o6 o7 o8 m_text m_size m_at m_begin m_token m_told m_read m_harbour m_now m_undone m_undos m_one m_two m_three m_chalks m_cb m_co m_trace m_kept X hl0 C V q_m_at q_m_begin q_m_token q_m_told hs hE)
