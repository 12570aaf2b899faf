def fX5_beats (m_harbour : Nat → Int32) (p1 : Int32) (p2 : Int32) (p3 : Int32) : Option (Int32) := tg_b1 (fX5_isDie p1) fun rr1 => if rr1 = 0 then (some (-1)) else (tg_b1 (fX5_isDie p2) fun rr4 => if rr4 = 0 then (some (-1)) else (if p1 = p2 then (some (-1)) else (tg_b1 (fX5_in (Int32.toInt64 p3) 0 1) fun rr8 => if ¬ rr8 = 0 then (tg_b1 (fX5_wins m_harbour p1 p2) fun rr11 => tg_b1 (fX5_faces m_harbour p1) fun rr13 => tg_b1 (fX5_faces m_harbour p2) fun rr15 => tg_b1 (fX5_least rr11 (rr13 * rr15) p3) fun rr17 => some rr17) else (some (-1)))))
set_option maxHeartbeats 2000000 in
set_option maxRecDepth 20000 in
theorem vX5_beats (l : Launch) (D : tg_D) (o0 o1 o2 o3 o4 o5 o6 o7 o8 : Nat) (m_text : Nat → Int32) (m_size : Int32) (m_at : Int32) (m_begin : Int32) (m_token : Int32) (m_told : Int32) (m_read : Nat → Int32) (m_harbour : Nat → Int32) (m_now : Nat → Int32) (m_undone : Nat → Int32) (m_undos : Int32) (m_one : Int32) (m_two : Int32) (m_three : Int32) (m_chalks : Int32) (m_cb : Nat → Int32) (m_co : Nat → Int32) (m_trace : Int64) (m_kept : Nat → Int32) (p1 : Int32) (p2 : Int32) (p3 : Int32) (X : tg_X) (hl0 : tg_l X = l) (C : tg_C X D 4 cX5_beats RX5 2 47 0 0) (r : Int32) (hs : fX5_beats m_harbour p1 p2 p3 = some r) (hE : tg_Ei X D 0 0 cX5_beats .int r (tw_M D o0 o1 o2 o3 o4 o5 o6 o7 o8 m_text m_size m_at m_begin m_token m_told m_read m_harbour m_now m_undone m_undos m_one m_two m_three m_chalks m_cb m_co m_trace m_kept)) : tg_G X D 4 0 0 (tw_M D o0 o1 o2 o3 o4 o5 o6 o7 o8 m_text m_size m_at m_begin m_token m_told m_read m_harbour m_now m_undone m_undos m_one m_two m_three m_chalks m_cb m_co m_trace m_kept) [(0, .ref o0), (1, .int p1), (2, .int p2), (3, .int p3)] 0 [] := by
  unfold fX5_beats at hs
  refine tg_iload_n C dX5_beats_0 rfl 1 rfl ?_
  obtain ⟨rr1, ee2, hs⟩ := tg_b1_e hs
  refine tg_pS (As := [.int p1]) (rest := []) C hl0 (kX5_isDie l D p1 rr1 ee2) wm_822 meX5_isDie (by decide) rfl rfl (Nat.le_of_ble_eq_true rfl) dX5_beats_1 ?_
  refine tg_if_eq (tgt := 29) C dX5_beats_4 (by decide) (fun cc3 => ?_) (fun cc3 => ?_)
  · have hs := tg_t cc3 hs
    refine tg_iconst (v := (-1)) C dX5_beats_29 (by decide) ?_
    obtain rfl := Option.some.inj hs
    exact tg_iret hE rfl dX5_beats_30
  · have hs := tg_f cc3 hs
    refine tg_iload_n C dX5_beats_7 rfl 2 rfl ?_
    obtain ⟨rr4, ee5, hs⟩ := tg_b1_e hs
    refine tg_pS (As := [.int p2]) (rest := []) C hl0 (kX5_isDie l D p2 rr4 ee5) wm_822 meX5_isDie (by decide) rfl rfl (Nat.le_of_ble_eq_true rfl) dX5_beats_8 ?_
    refine tg_if_eq (tgt := 29) C dX5_beats_11 (by decide) (fun cc6 => ?_) (fun cc6 => ?_)
    · have hs := tg_t cc6 hs
      refine tg_iconst (v := (-1)) C dX5_beats_29 (by decide) ?_
      obtain rfl := Option.some.inj hs
      exact tg_iret hE rfl dX5_beats_30
    · have hs := tg_f cc6 hs
      refine tg_iload_n C dX5_beats_14 rfl 1 rfl ?_
      refine tg_iload_n C dX5_beats_15 rfl 2 rfl ?_
      refine tg_icmp_eq (tgt := 29) C dX5_beats_16 (by decide) (fun cc7 => ?_) (fun cc7 => ?_)
      · have hs := tg_t cc7 hs
        refine tg_iconst (v := (-1)) C dX5_beats_29 (by decide) ?_
        obtain rfl := Option.some.inj hs
        exact tg_iret hE rfl dX5_beats_30
      · have hs := tg_f cc7 hs
        refine tg_iload_n C dX5_beats_19 rfl 3 rfl ?_
        refine tg_i2l C dX5_beats_20 ?_
        refine tg_lconst (v := 0) C dX5_beats_21 (by decide) ?_
        refine tg_lconst (v := 1) C dX5_beats_22 (by decide) ?_
        obtain ⟨rr8, ee9, hs⟩ := tg_b1_e hs
        refine tg_pS (As := [.long (Int32.toInt64 p3), .long 0, .long 1]) (rest := []) C hl0 (kX5_in l D (Int32.toInt64 p3) 0 1 rr8 ee9) wm_768 meX5_in (by decide) rfl rfl (Nat.le_of_ble_eq_true rfl) dX5_beats_23 ?_
        refine tg_if_ne (tgt := 31) C dX5_beats_26 (by decide) (fun cc10 => ?_) (fun cc10 => ?_)
        · have hs := tg_t cc10 hs
          refine tg_aload_n C dX5_beats_31 rfl 0 rfl ?_
          refine tg_iload_n C dX5_beats_32 rfl 1 rfl ?_
          refine tg_iload_n C dX5_beats_33 rfl 2 rfl ?_
          obtain ⟨rr11, ee12, hs⟩ := tg_b1_e hs
          refine tg_pVs (As := [.int p1, .int p2]) (rest := []) C hl0 (kX5_wins l D o0 o1 o2 o3 o4 o5 o6 o7 o8 m_text m_size m_at m_begin m_token m_told m_read m_harbour m_now m_undone m_undos m_one m_two m_three m_chalks m_cb m_co m_trace m_kept p1 p2 rr11 ee12) wm_1009 meX5_wins (by decide) rfl rfl rfl rfl (Nat.le_of_ble_eq_true rfl) dX5_beats_34 ?_
          refine tg_aload_n C dX5_beats_37 rfl 0 rfl ?_
          refine tg_iload_n C dX5_beats_38 rfl 1 rfl ?_
          obtain ⟨rr13, ee14, hs⟩ := tg_b1_e hs
          refine tg_pVs (As := [.int p1]) (rest := [.int rr11]) C hl0 (kX5_faces l D o0 o1 o2 o3 o4 o5 o6 o7 o8 m_text m_size m_at m_begin m_token m_told m_read m_harbour m_now m_undone m_undos m_one m_two m_three m_chalks m_cb m_co m_trace m_kept p1 rr13 ee14) wm_827 meX5_faces (by decide) rfl rfl rfl rfl (Nat.le_of_ble_eq_true rfl) dX5_beats_39 ?_
          refine tg_aload_n C dX5_beats_42 rfl 0 rfl ?_
          refine tg_iload_n C dX5_beats_43 rfl 2 rfl ?_
          obtain ⟨rr15, ee16, hs⟩ := tg_b1_e hs
          refine tg_pVs (As := [.int p2]) (rest := [.int rr13, .int rr11]) C hl0 (kX5_faces l D o0 o1 o2 o3 o4 o5 o6 o7 o8 m_text m_size m_at m_begin m_token m_told m_read m_harbour m_now m_undone m_undos m_one m_two m_three m_chalks m_cb m_co m_trace m_kept p2 rr15 ee16) wm_827 meX5_faces (by decide) rfl rfl rfl rfl (Nat.le_of_ble_eq_true rfl) dX5_beats_44 ?_
          refine tg_imul C dX5_beats_47 ?_
          refine tg_iload_n C dX5_beats_48 rfl 3 rfl ?_
          obtain ⟨rr17, ee18, hs⟩ := tg_b1_e hs
          refine tg_pS (As := [.int rr11, .int (rr13 * rr15), .int p3]) (rest := []) C hl0 (kX5_least l D rr11 (rr13 * rr15) p3 rr17 ee18) wm_955 meX5_least (by decide) rfl rfl (Nat.le_of_ble_eq_true rfl) dX5_beats_49 ?_
          obtain rfl := Option.some.inj hs
          exact tg_iret hE rfl dX5_beats_52
        · have hs := tg_nf cc10 hs
          refine tg_iconst (v := (-1)) C dX5_beats_29 (by decide) ?_
          obtain rfl := Option.some.inj hs
          exact tg_iret hE rfl dX5_beats_30
set_option maxHeartbeats 2000000 in
set_option maxRecDepth 20000 in
theorem kX5_beats (l : Launch) (D : tg_D) (o0 o1 o2 o3 o4 o5 o6 o7 o8 : Nat) (m_text : Nat → Int32) (m_size : Int32) (m_at : Int32) (m_begin : Int32) (m_token : Int32) (m_told : Int32) (m_read : Nat → Int32) (m_harbour : Nat → Int32) (m_now : Nat → Int32) (m_undone : Nat → Int32) (m_undos : Int32) (m_one : Int32) (m_two : Int32) (m_three : Int32) (m_chalks : Int32) (m_cb : Nat → Int32) (m_co : Nat → Int32) (m_trace : Int64) (m_kept : Nat → Int32) (p1 : Int32) (p2 : Int32) (p3 : Int32) (r : Int32) (hs : fX5_beats m_harbour p1 p2 p3 = some r) : Met l yX5_beats [Cond.code yX5_beats cX5_beats 4 (some .int)] (tg_rm 2 47) (tg_Pre D (tw_M D o0 o1 o2 o3 o4 o5 o6 o7 o8 m_text m_size m_at m_begin m_token m_told m_read m_harbour m_now m_undone m_undos m_one m_two m_three m_chalks m_cb m_co m_trace m_kept) [.ref o0, .int p1, .int p2, .int p3]) (vp_Si (fun r' => r' = r)) 0 0 (fun _ => False) := tg_metI (by decide) (Nat.le_of_ble_eq_true rfl) (fun X hl0 C hE => vX5_beats l D o0 o1 o2 o3 o4 o5 o6 o7 o8 m_text m_size m_at m_begin m_token m_told m_read m_harbour m_now m_undone m_undos m_one m_two m_three m_chalks m_cb m_co m_trace m_kept p1 p2 p3 X hl0 C r hs hE)
def fX5_isMore (m_harbour : Nat → Int32) (p1 : Int32) (p2 : Int32) : Option (Int32) := tg_b1 (fX5_wins m_harbour p1 p2) fun rr1 => tg_b1 (fX5_faces m_harbour p1) fun rr3 => tg_b1 (fX5_faces m_harbour p2) fun rr5 => if (2 * rr1) ≤ (rr3 * rr5) then (some 0) else (some 1)
set_option maxHeartbeats 2000000 in
set_option maxRecDepth 20000 in
theorem vX5_isMore (l : Launch) (D : tg_D) (o0 o1 o2 o3 o4 o5 o6 o7 o8 : Nat) (m_text : Nat → Int32) (m_size : Int32) (m_at : Int32) (m_begin : Int32) (m_token : Int32) (m_told : Int32) (m_read : Nat → Int32) (m_harbour : Nat → Int32) (m_now : Nat → Int32) (m_undone : Nat → Int32) (m_undos : Int32) (m_one : Int32) (m_two : Int32) (m_three : Int32) (m_chalks : Int32) (m_cb : Nat → Int32) (m_co : Nat → Int32) (m_trace : Int64) (m_kept : Nat → Int32) (p1 : Int32) (p2 : Int32) (X : tg_X) (hl0 : tg_l X = l) (C : tg_C X D 3 cX5_isMore RX5 2 47 0 0) (r : Int32) (hs : fX5_isMore m_harbour p1 p2 = some r) (hE : tg_Ei X D 0 0 cX5_isMore .boolean r (tw_M D o0 o1 o2 o3 o4 o5 o6 o7 o8 m_text m_size m_at m_begin m_token m_told m_read m_harbour m_now m_undone m_undos m_one m_two m_three m_chalks m_cb m_co m_trace m_kept)) : tg_G X D 3 0 0 (tw_M D o0 o1 o2 o3 o4 o5 o6 o7 o8 m_text m_size m_at m_begin m_token m_told m_read m_harbour m_now m_undone m_undos m_one m_two m_three m_chalks m_cb m_co m_trace m_kept) [(0, .ref o0), (1, .int p1), (2, .int p2)] 0 [] := by
  unfold fX5_isMore at hs
  refine tg_iconst (v := 2) C dX5_isMore_0 (by decide) ?_
  refine tg_aload_n C dX5_isMore_1 rfl 0 rfl ?_
  refine tg_iload_n C dX5_isMore_2 rfl 1 rfl ?_
  refine tg_iload_n C dX5_isMore_3 rfl 2 rfl ?_
  obtain ⟨rr1, ee2, hs⟩ := tg_b1_e hs
  refine tg_pVs (As := [.int p1, .int p2]) (rest := [.int 2]) C hl0 (kX5_wins l D o0 o1 o2 o3 o4 o5 o6 o7 o8 m_text m_size m_at m_begin m_token m_told m_read m_harbour m_now m_undone m_undos m_one m_two m_three m_chalks m_cb m_co m_trace m_kept p1 p2 rr1 ee2) wm_1009 meX5_wins (by decide) rfl rfl rfl rfl (Nat.le_of_ble_eq_true rfl) dX5_isMore_4 ?_
  refine tg_imul C dX5_isMore_7 ?_
  refine tg_aload_n C dX5_isMore_8 rfl 0 rfl ?_
  refine tg_iload_n C dX5_isMore_9 rfl 1 rfl ?_
  obtain ⟨rr3, ee4, hs⟩ := tg_b1_e hs
  refine tg_pVs (As := [.int p1]) (rest := [.int (2 * rr1)]) C hl0 (kX5_faces l D o0 o1 o2 o3 o4 o5 o6 o7 o8 m_text m_size m_at m_begin m_token m_told m_read m_harbour m_now m_undone m_undos m_one m_two m_three m_chalks m_cb m_co m_trace m_kept p1 rr3 ee4) wm_827 meX5_faces (by decide) rfl rfl rfl rfl (Nat.le_of_ble_eq_true rfl) dX5_isMore_10 ?_
  refine tg_aload_n C dX5_isMore_13 rfl 0 rfl ?_
  refine tg_iload_n C dX5_isMore_14 rfl 2 rfl ?_
  obtain ⟨rr5, ee6, hs⟩ := tg_b1_e hs
  refine tg_pVs (As := [.int p2]) (rest := [.int rr3, .int (2 * rr1)]) C hl0 (kX5_faces l D o0 o1 o2 o3 o4 o5 o6 o7 o8 m_text m_size m_at m_begin m_token m_told m_read m_harbour m_now m_undone m_undos m_one m_two m_three m_chalks m_cb m_co m_trace m_kept p2 rr5 ee6) wm_827 meX5_faces (by decide) rfl rfl rfl rfl (Nat.le_of_ble_eq_true rfl) dX5_isMore_15 ?_
  refine tg_imul C dX5_isMore_18 ?_
  refine tg_icmp_le (tgt := 26) C dX5_isMore_19 (by decide) (fun cc7 => ?_) (fun cc7 => ?_)
  · have hs := tg_t cc7 hs
    refine tg_iconst (v := 0) C dX5_isMore_26 (by decide) ?_
    obtain rfl := Option.some.inj hs
    exact tg_iret hE rfl dX5_isMore_27
  · have hs := tg_f cc7 hs
    refine tg_iconst (v := 1) C dX5_isMore_22 (by decide) ?_
    refine tg_goto (tgt := 27) C dX5_isMore_23 (by decide) ?_
    obtain rfl := Option.some.inj hs
    exact tg_iret hE rfl dX5_isMore_27
set_option maxHeartbeats 2000000 in
set_option maxRecDepth 20000 in
theorem kX5_isMore (l : Launch) (D : tg_D) (o0 o1 o2 o3 o4 o5 o6 o7 o8 : Nat) (m_text : Nat → Int32) (m_size : Int32) (m_at : Int32) (m_begin : Int32) (m_token : Int32) (m_told : Int32) (m_read : Nat → Int32) (m_harbour : Nat → Int32) (m_now : Nat → Int32) (m_undone : Nat → Int32) (m_undos : Int32) (m_one : Int32) (m_two : Int32) (m_three : Int32) (m_chalks : Int32) (m_cb : Nat → Int32) (m_co : Nat → Int32) (m_trace : Int64) (m_kept : Nat → Int32) (p1 : Int32) (p2 : Int32) (r : Int32) (hs : fX5_isMore m_harbour p1 p2 = some r) : Met l yX5_isMore [Cond.code yX5_isMore cX5_isMore 3 (some .boolean)] (tg_rm 2 47) (tg_Pre D (tw_M D o0 o1 o2 o3 o4 o5 o6 o7 o8 m_text m_size m_at m_begin m_token m_told m_read m_harbour m_now m_undone m_undos m_one m_two m_three m_chalks m_cb m_co m_trace m_kept) [.ref o0, .int p1, .int p2]) (vp_Si (fun r' => r' = r)) 0 0 (fun _ => False) := tg_metI (by decide) (Nat.le_of_ble_eq_true rfl) (fun X hl0 C hE => vX5_isMore l D o0 o1 o2 o3 o4 o5 o6 o7 o8 m_text m_size m_at m_begin m_token m_told m_read m_harbour m_now m_undone m_undos m_one m_two m_three m_chalks m_cb m_co m_trace m_kept p1 p2 X hl0 C r hs hE)
def fX5_ring (m_harbour : Nat → Int32) : Option (Int32) := tg_b1 (fX5_isMore m_harbour 0 1) fun rr1 => if rr1 = 0 then (tg_b1 (fX5_isMore m_harbour 1 0) fun rr4 => if rr4 = 0 then (some 0) else (tg_b1 (fX5_isMore m_harbour 2 1) fun rr7 => if rr7 = 0 then (some 0) else (tg_b1 (fX5_isMore m_harbour 0 2) fun rr10 => if rr10 = 0 then (some 0) else (some 2)))) else (tg_b1 (fX5_isMore m_harbour 1 2) fun rr13 => if rr13 = 0 then (tg_b1 (fX5_isMore m_harbour 1 0) fun rr16 => if rr16 = 0 then (some 0) else (tg_b1 (fX5_isMore m_harbour 2 1) fun rr19 => if rr19 = 0 then (some 0) else (tg_b1 (fX5_isMore m_harbour 0 2) fun rr22 => if rr22 = 0 then (some 0) else (some 2)))) else (tg_b1 (fX5_isMore m_harbour 2 0) fun rr25 => if rr25 = 0 then (tg_b1 (fX5_isMore m_harbour 1 0) fun rr28 => if rr28 = 0 then (some 0) else (tg_b1 (fX5_isMore m_harbour 2 1) fun rr31 => if rr31 = 0 then (some 0) else (tg_b1 (fX5_isMore m_harbour 0 2) fun rr34 => if rr34 = 0 then (some 0) else (some 2)))) else (some 1)))
set_option maxHeartbeats 2000000 in
set_option maxRecDepth 20000 in
theorem vX5_ring (l : Launch) (D : tg_D) (o0 o1 o2 o3 o4 o5 o6 o7 o8 : Nat) (m_text : Nat → Int32) (m_size : Int32) (m_at : Int32) (m_begin : Int32) (m_token : Int32) (m_told : Int32) (m_read : Nat → Int32) (m_harbour : Nat → Int32) (m_now : Nat → Int32) (m_undone : Nat → Int32) (m_undos : Int32) (m_one : Int32) (m_two : Int32) (m_three : Int32) (m_chalks : Int32) (m_cb : Nat → Int32) (m_co : Nat → Int32) (m_trace : Int64) (m_kept : Nat → Int32) (X : tg_X) (hl0 : tg_l X = l) (C : tg_C X D 1 cX5_ring RX5 3 69 0 0) (r : Int32) (hs : fX5_ring m_harbour = some r) (hE : tg_Ei X D 0 0 cX5_ring .int r (tw_M D o0 o1 o2 o3 o4 o5 o6 o7 o8 m_text m_size m_at m_begin m_token m_told m_read m_harbour m_now m_undone m_undos m_one m_two m_three m_chalks m_cb m_co m_trace m_kept)) : tg_G X D 1 0 0 (tw_M D o0 o1 o2 o3 o4 o5 o6 o7 o8 m_text m_size m_at m_begin m_token m_told m_read m_harbour m_now m_undone m_undos m_one m_two m_three m_chalks m_cb m_co m_trace m_kept) [(0, .ref o0)] 0 [] := by
  unfold fX5_ring at hs
  refine tg_aload_n C dX5_ring_0 rfl 0 rfl ?_
  refine tg_iconst (v := 0) C dX5_ring_1 (by decide) ?_
  refine tg_iconst (v := 1) C dX5_ring_2 (by decide) ?_
  obtain ⟨rr1, ee2, hs⟩ := tg_b1_e hs
  refine tg_pVs (As := [.int 0, .int 1]) (rest := []) C hl0 (kX5_isMore l D o0 o1 o2 o3 o4 o5 o6 o7 o8 m_text m_size m_at m_begin m_token m_told m_read m_harbour m_now m_undone m_undos m_one m_two m_three m_chalks m_cb m_co m_trace m_kept 0 1 rr1 ee2) wm_1017 meX5_isMore (by decide) rfl rfl rfl rfl (Nat.le_of_ble_eq_true rfl) dX5_ring_3 ?_
  refine tg_if_eq (tgt := 29) C dX5_ring_6 (by decide) (fun cc3 => ?_) (fun cc3 => ?_)
  · have hs := tg_t cc3 hs
    refine tg_aload_n C dX5_ring_29 rfl 0 rfl ?_
    refine tg_iconst (v := 1) C dX5_ring_30 (by decide) ?_
    refine tg_iconst (v := 0) C dX5_ring_31 (by decide) ?_
    obtain ⟨rr4, ee5, hs⟩ := tg_b1_e hs
    refine tg_pVs (As := [.int 1, .int 0]) (rest := []) C hl0 (kX5_isMore l D o0 o1 o2 o3 o4 o5 o6 o7 o8 m_text m_size m_at m_begin m_token m_told m_read m_harbour m_now m_undone m_undos m_one m_two m_three m_chalks m_cb m_co m_trace m_kept 1 0 rr4 ee5) wm_1017 meX5_isMore (by decide) rfl rfl rfl rfl (Nat.le_of_ble_eq_true rfl) dX5_ring_32 ?_
    refine tg_if_eq (tgt := 60) C dX5_ring_35 (by decide) (fun cc6 => ?_) (fun cc6 => ?_)
    · have hs := tg_t cc6 hs
      refine tg_iconst (v := 0) C dX5_ring_60 (by decide) ?_
      obtain rfl := Option.some.inj hs
      exact tg_iret hE rfl dX5_ring_61
    · have hs := tg_f cc6 hs
      refine tg_aload_n C dX5_ring_38 rfl 0 rfl ?_
      refine tg_iconst (v := 2) C dX5_ring_39 (by decide) ?_
      refine tg_iconst (v := 1) C dX5_ring_40 (by decide) ?_
      obtain ⟨rr7, ee8, hs⟩ := tg_b1_e hs
      refine tg_pVs (As := [.int 2, .int 1]) (rest := []) C hl0 (kX5_isMore l D o0 o1 o2 o3 o4 o5 o6 o7 o8 m_text m_size m_at m_begin m_token m_told m_read m_harbour m_now m_undone m_undos m_one m_two m_three m_chalks m_cb m_co m_trace m_kept 2 1 rr7 ee8) wm_1017 meX5_isMore (by decide) rfl rfl rfl rfl (Nat.le_of_ble_eq_true rfl) dX5_ring_41 ?_
      refine tg_if_eq (tgt := 60) C dX5_ring_44 (by decide) (fun cc9 => ?_) (fun cc9 => ?_)
      · have hs := tg_t cc9 hs
        refine tg_iconst (v := 0) C dX5_ring_60 (by decide) ?_
        obtain rfl := Option.some.inj hs
        exact tg_iret hE rfl dX5_ring_61
      · have hs := tg_f cc9 hs
        refine tg_aload_n C dX5_ring_47 rfl 0 rfl ?_
        refine tg_iconst (v := 0) C dX5_ring_48 (by decide) ?_
        refine tg_iconst (v := 2) C dX5_ring_49 (by decide) ?_
        obtain ⟨rr10, ee11, hs⟩ := tg_b1_e hs
        refine tg_pVs (As := [.int 0, .int 2]) (rest := []) C hl0 (kX5_isMore l D o0 o1 o2 o3 o4 o5 o6 o7 o8 m_text m_size m_at m_begin m_token m_told m_read m_harbour m_now m_undone m_undos m_one m_two m_three m_chalks m_cb m_co m_trace m_kept 0 2 rr10 ee11) wm_1017 meX5_isMore (by decide) rfl rfl rfl rfl (Nat.le_of_ble_eq_true rfl) dX5_ring_50 ?_
        refine tg_if_eq (tgt := 60) C dX5_ring_53 (by decide) (fun cc12 => ?_) (fun cc12 => ?_)
        · have hs := tg_t cc12 hs
          refine tg_iconst (v := 0) C dX5_ring_60 (by decide) ?_
          obtain rfl := Option.some.inj hs
          exact tg_iret hE rfl dX5_ring_61
        · have hs := tg_f cc12 hs
          refine tg_iconst (v := 2) C dX5_ring_56 (by decide) ?_
          refine tg_goto (tgt := 61) C dX5_ring_57 (by decide) ?_
          obtain rfl := Option.some.inj hs
          exact tg_iret hE rfl dX5_ring_61
  · have hs := tg_f cc3 hs
    refine tg_aload_n C dX5_ring_9 rfl 0 rfl ?_
    refine tg_iconst (v := 1) C dX5_ring_10 (by decide) ?_
    refine tg_iconst (v := 2) C dX5_ring_11 (by decide) ?_
    obtain ⟨rr13, ee14, hs⟩ := tg_b1_e hs
    refine tg_pVs (As := [.int 1, .int 2]) (rest := []) C hl0 (kX5_isMore l D o0 o1 o2 o3 o4 o5 o6 o7 o8 m_text m_size m_at m_begin m_token m_told m_read m_harbour m_now m_undone m_undos m_one m_two m_three m_chalks m_cb m_co m_trace m_kept 1 2 rr13 ee14) wm_1017 meX5_isMore (by decide) rfl rfl rfl rfl (Nat.le_of_ble_eq_true rfl) dX5_ring_12 ?_
    refine tg_if_eq (tgt := 29) C dX5_ring_15 (by decide) (fun cc15 => ?_) (fun cc15 => ?_)
    · have hs := tg_t cc15 hs
      refine tg_aload_n C dX5_ring_29 rfl 0 rfl ?_
      refine tg_iconst (v := 1) C dX5_ring_30 (by decide) ?_
      refine tg_iconst (v := 0) C dX5_ring_31 (by decide) ?_
      obtain ⟨rr16, ee17, hs⟩ := tg_b1_e hs
      refine tg_pVs (As := [.int 1, .int 0]) (rest := []) C hl0 (kX5_isMore l D o0 o1 o2 o3 o4 o5 o6 o7 o8 m_text m_size m_at m_begin m_token m_told m_read m_harbour m_now m_undone m_undos m_one m_two m_three m_chalks m_cb m_co m_trace m_kept 1 0 rr16 ee17) wm_1017 meX5_isMore (by decide) rfl rfl rfl rfl (Nat.le_of_ble_eq_true rfl) dX5_ring_32 ?_
      refine tg_if_eq (tgt := 60) C dX5_ring_35 (by decide) (fun cc18 => ?_) (fun cc18 => ?_)
      · have hs := tg_t cc18 hs
        refine tg_iconst (v := 0) C dX5_ring_60 (by decide) ?_
        obtain rfl := Option.some.inj hs
        exact tg_iret hE rfl dX5_ring_61
      · have hs := tg_f cc18 hs
        refine tg_aload_n C dX5_ring_38 rfl 0 rfl ?_
        refine tg_iconst (v := 2) C dX5_ring_39 (by decide) ?_
        refine tg_iconst (v := 1) C dX5_ring_40 (by decide) ?_
        obtain ⟨rr19, ee20, hs⟩ := tg_b1_e hs
        refine tg_pVs (As := [.int 2, .int 1]) (rest := []) C hl0 (kX5_isMore l D o0 o1 o2 o3 o4 o5 o6 o7 o8 m_text m_size m_at m_begin m_token m_told m_read m_harbour m_now m_undone m_undos m_one m_two m_three m_chalks m_cb m_co m_trace m_kept 2 1 rr19 ee20) wm_1017 meX5_isMore (by decide) rfl rfl rfl rfl (Nat.le_of_ble_eq_true rfl) dX5_ring_41 ?_
        refine tg_if_eq (tgt := 60) C dX5_ring_44 (by decide) (fun cc21 => ?_) (fun cc21 => ?_)
        · have hs := tg_t cc21 hs
          refine tg_iconst (v := 0) C dX5_ring_60 (by decide) ?_
          obtain rfl := Option.some.inj hs
          exact tg_iret hE rfl dX5_ring_61
        · have hs := tg_f cc21 hs
          refine tg_aload_n C dX5_ring_47 rfl 0 rfl ?_
          refine tg_iconst (v := 0) C dX5_ring_48 (by decide) ?_
          refine tg_iconst (v := 2) C dX5_ring_49 (by decide) ?_
          obtain ⟨rr22, ee23, hs⟩ := tg_b1_e hs
          refine tg_pVs (As := [.int 0, .int 2]) (rest := []) C hl0 (kX5_isMore l D o0 o1 o2 o3 o4 o5 o6 o7 o8 m_text m_size m_at m_begin m_token m_told m_read m_harbour m_now m_undone m_undos m_one m_two m_three m_chalks m_cb m_co m_trace m_kept 0 2 rr22 ee23) wm_1017 meX5_isMore (by decide) rfl rfl rfl rfl (Nat.le_of_ble_eq_true rfl) dX5_ring_50 ?_
          refine tg_if_eq (tgt := 60) C dX5_ring_53 (by decide) (fun cc24 => ?_) (fun cc24 => ?_)
          · have hs := tg_t cc24 hs
            refine tg_iconst (v := 0) C dX5_ring_60 (by decide) ?_
            obtain rfl := Option.some.inj hs
            exact tg_iret hE rfl dX5_ring_61
          · have hs := tg_f cc24 hs
            refine tg_iconst (v := 2) C dX5_ring_56 (by decide) ?_
            refine tg_goto (tgt := 61) C dX5_ring_57 (by decide) ?_
            obtain rfl := Option.some.inj hs
            exact tg_iret hE rfl dX5_ring_61
    · have hs := tg_f cc15 hs
      refine tg_aload_n C dX5_ring_18 rfl 0 rfl ?_
      refine tg_iconst (v := 2) C dX5_ring_19 (by decide) ?_
      refine tg_iconst (v := 0) C dX5_ring_20 (by decide) ?_
      obtain ⟨rr25, ee26, hs⟩ := tg_b1_e hs
      refine tg_pVs (As := [.int 2, .int 0]) (rest := []) C hl0 (kX5_isMore l D o0 o1 o2 o3 o4 o5 o6 o7 o8 m_text m_size m_at m_begin m_token m_told m_read m_harbour m_now m_undone m_undos m_one m_two m_three m_chalks m_cb m_co m_trace m_kept 2 0 rr25 ee26) wm_1017 meX5_isMore (by decide) rfl rfl rfl rfl (Nat.le_of_ble_eq_true rfl) dX5_ring_21 ?_
      refine tg_if_eq (tgt := 29) C dX5_ring_24 (by decide) (fun cc27 => ?_) (fun cc27 => ?_)
      · have hs := tg_t cc27 hs
        refine tg_aload_n C dX5_ring_29 rfl 0 rfl ?_
        refine tg_iconst (v := 1) C dX5_ring_30 (by decide) ?_
        refine tg_iconst (v := 0) C dX5_ring_31 (by decide) ?_
        obtain ⟨rr28, ee29, hs⟩ := tg_b1_e hs
        refine tg_pVs (As := [.int 1, .int 0]) (rest := []) C hl0 (kX5_isMore l D o0 o1 o2 o3 o4 o5 o6 o7 o8 m_text m_size m_at m_begin m_token m_told m_read m_harbour m_now m_undone m_undos m_one m_two m_three m_chalks m_cb m_co m_trace m_kept 1 0 rr28 ee29) wm_1017 meX5_isMore (by decide) rfl rfl rfl rfl (Nat.le_of_ble_eq_true rfl) dX5_ring_32 ?_
        refine tg_if_eq (tgt := 60) C dX5_ring_35 (by decide) (fun cc30 => ?_) (fun cc30 => ?_)
        · have hs := tg_t cc30 hs
          refine tg_iconst (v := 0) C dX5_ring_60 (by decide) ?_
          obtain rfl := Option.some.inj hs
          exact tg_iret hE rfl dX5_ring_61
        · have hs := tg_f cc30 hs
          refine tg_aload_n C dX5_ring_38 rfl 0 rfl ?_
          refine tg_iconst (v := 2) C dX5_ring_39 (by decide) ?_
          refine tg_iconst (v := 1) C dX5_ring_40 (by decide) ?_
          obtain ⟨rr31, ee32, hs⟩ := tg_b1_e hs
          refine tg_pVs (As := [.int 2, .int 1]) (rest := []) C hl0 (kX5_isMore l D o0 o1 o2 o3 o4 o5 o6 o7 o8 m_text m_size m_at m_begin m_token m_told m_read m_harbour m_now m_undone m_undos m_one m_two m_three m_chalks m_cb m_co m_trace m_kept 2 1 rr31 ee32) wm_1017 meX5_isMore (by decide) rfl rfl rfl rfl (Nat.le_of_ble_eq_true rfl) dX5_ring_41 ?_
          refine tg_if_eq (tgt := 60) C dX5_ring_44 (by decide) (fun cc33 => ?_) (fun cc33 => ?_)
          · have hs := tg_t cc33 hs
            refine tg_iconst (v := 0) C dX5_ring_60 (by decide) ?_
            obtain rfl := Option.some.inj hs
            exact tg_iret hE rfl dX5_ring_61
          · have hs := tg_f cc33 hs
            refine tg_aload_n C dX5_ring_47 rfl 0 rfl ?_
            refine tg_iconst (v := 0) C dX5_ring_48 (by decide) ?_
            refine tg_iconst (v := 2) C dX5_ring_49 (by decide) ?_
            obtain ⟨rr34, ee35, hs⟩ := tg_b1_e hs
            refine tg_pVs (As := [.int 0, .int 2]) (rest := []) C hl0 (kX5_isMore l D o0 o1 o2 o3 o4 o5 o6 o7 o8 m_text m_size m_at m_begin m_token m_told m_read m_harbour m_now m_undone m_undos m_one m_two m_three m_chalks m_cb m_co m_trace m_kept 0 2 rr34 ee35) wm_1017 meX5_isMore (by decide) rfl rfl rfl rfl (Nat.le_of_ble_eq_true rfl) dX5_ring_50 ?_
            refine tg_if_eq (tgt := 60) C dX5_ring_53 (by decide) (fun cc36 => ?_) (fun cc36 => ?_)
            · have hs := tg_t cc36 hs
              refine tg_iconst (v := 0) C dX5_ring_60 (by decide) ?_
              obtain rfl := Option.some.inj hs
              exact tg_iret hE rfl dX5_ring_61
            · have hs := tg_f cc36 hs
              refine tg_iconst (v := 2) C dX5_ring_56 (by decide) ?_
              refine tg_goto (tgt := 61) C dX5_ring_57 (by decide) ?_
              obtain rfl := Option.some.inj hs
              exact tg_iret hE rfl dX5_ring_61
      · have hs := tg_f cc27 hs
        refine tg_iconst (v := 1) C dX5_ring_27 (by decide) ?_
        obtain rfl := Option.some.inj hs
        exact tg_iret hE rfl dX5_ring_28
set_option maxHeartbeats 2000000 in
set_option maxRecDepth 20000 in
theorem kX5_ring (l : Launch) (D : tg_D) (o0 o1 o2 o3 o4 o5 o6 o7 o8 : Nat) (m_text : Nat → Int32) (m_size : Int32) (m_at : Int32) (m_begin : Int32) (m_token : Int32) (m_told : Int32) (m_read : Nat → Int32) (m_harbour : Nat → Int32) (m_now : Nat → Int32) (m_undone : Nat → Int32) (m_undos : Int32) (m_one : Int32) (m_two : Int32) (m_three : Int32) (m_chalks : Int32) (m_cb : Nat → Int32) (m_co : Nat → Int32) (m_trace : Int64) (m_kept : Nat → Int32) (r : Int32) (hs : fX5_ring m_harbour = some r) : Met l yX5_ring [Cond.code yX5_ring cX5_ring 1 (some .int)] (tg_rm 3 69) (tg_Pre D (tw_M D o0 o1 o2 o3 o4 o5 o6 o7 o8 m_text m_size m_at m_begin m_token m_told m_read m_harbour m_now m_undone m_undos m_one m_two m_three m_chalks m_cb m_co m_trace m_kept) [.ref o0]) (vp_Si (fun r' => r' = r)) 0 0 (fun _ => False) := tg_metI (by decide) (Nat.le_of_ble_eq_true rfl) (fun X hl0 C hE => vX5_ring l D o0 o1 o2 o3 o4 o5 o6 o7 o8 m_text m_size m_at m_begin m_token m_told m_read m_harbour m_now m_undone m_undos m_one m_two m_three m_chalks m_cb m_co m_trace m_kept X hl0 C r hs hE)
def fX5_mark (m_harbour : Nat → Int32) (m_now : Nat → Int32) (m_one : Int32) (m_two : Int32) (m_three : Int32) (m_trace : Int64) (p1 : Int32) (p2 : Int32) : Option (Int32 × Int32 × Int32 × Int32 × Int64) := tg_b1 (fX5_in (Int32.toInt64 p1) 0 5) fun rr1 => if rr1 = 0 then (some ((-1000000), m_one, m_two, m_three, m_trace)) else (tg_b1 (fX5_isBerth m_harbour p2) fun rr4 => if ¬ rr4 = 0 then (tg_b1 (if ¬ p1 = 0 then (if ¬ p1 = 1 then (if ¬ p1 = 2 then (if ¬ p1 = 3 then (if ¬ p1 = 4 then (some (100001 : Int64)) else (some (10101 : Int64))) else (some (1011 : Int64))) else (some (101 : Int64))) else (some (11 : Int64))) else (some (1 : Int64))) fun (vv8 : Int64) => tg_nm (m_trace + vv8) fun vv14 => if p1 = 0 then (some (p2, m_one, m_two, m_three, vv14)) else (if p1 = 1 then (tg_b4 (fX5_chances m_harbour m_now m_one m_two m_three p2) fun rr17 vv18 vv19 vv20 => some (p2 + rr17, vv18, vv19, vv20, vv14)) else (if p1 = 2 then (tg_b1 (fX5_taken m_harbour m_now) fun rr23 => tg_b1 (fX5_many rr23) fun rr25 => some (p2 - rr25, m_one, m_two, m_three, vv14)) else (if p1 = 3 then (tg_b4 (fX5_chances m_harbour m_now m_one m_two m_three p2) fun rr28 vv29 vv30 vv31 => some (2 * (p2 + rr28), vv29, vv30, vv31, vv14)) else (if p1 = 4 then (tg_b1 (fX5_taken m_harbour m_now) fun rr34 => tg_b1 (fX5_many rr34) fun rr36 => some ((p2 - rr36) + (7 * (m_now 1)), m_one, m_two, m_three, vv14)) else (some ((p2 + (m_now 3)) + (m_now 4), m_one, m_two, m_three, vv14))))))) else (some ((-1000000), m_one, m_two, m_three, m_trace)))
set_option maxHeartbeats 2000000 in
set_option maxRecDepth 20000 in
theorem vX5_mark (l : Launch) (D : tg_D) (o0 o1 o2 o3 o4 o5 o6 o7 o8 : Nat) (m_text : Nat → Int32) (m_size : Int32) (m_at : Int32) (m_begin : Int32) (m_token : Int32) (m_told : Int32) (m_read : Nat → Int32) (m_harbour : Nat → Int32) (m_now : Nat → Int32) (m_undone : Nat → Int32) (m_undos : Int32) (m_one : Int32) (m_two : Int32) (m_three : Int32) (m_chalks : Int32) (m_cb : Nat → Int32) (m_co : Nat → Int32) (m_trace : Int64) (m_kept : Nat → Int32) (p1 : Int32) (p2 : Int32) (X : tg_X) (hl0 : tg_l X = l) (C : tg_C X D 3 cX5_mark RX5 4 91 0 0) (V : tg_V X) (r : Int32) (q_m_one : Int32) (q_m_two : Int32) (q_m_three : Int32) (q_m_trace : Int64) (hs : fX5_mark m_harbour m_now m_one m_two m_three m_trace p1 p2 = some (r, q_m_one, q_m_two, q_m_three, q_m_trace)) (hE : tg_Ei X D 0 0 cX5_mark .int r (tw_M D o0 o1 o2 o3 o4 o5 o6 o7 o8 m_text m_size m_at m_begin m_token m_told m_read m_harbour m_now m_undone m_undos q_m_one q_m_two q_m_three m_chalks m_cb m_co q_m_trace m_kept)) : tg_G X D 3 0 0 (tw_M D o0 o1 o2 o3 o4 o5 o6 o7 o8 m_text m_size m_at m_begin m_token m_told m_read m_harbour m_now m_undone m_undos m_one m_two m_three m_chalks m_cb m_co m_trace m_kept) [(0, .ref o0), (1, .int p1), (2, .int p2)] 0 [] := by
  unfold fX5_mark at hs
  refine tg_iload_n C dX5_mark_0 rfl 1 rfl ?_
  refine tg_i2l C dX5_mark_1 ?_
  refine tg_lconst (v := 0) C dX5_mark_2 (by decide) ?_
  refine tg_ldc2 C wm_1025 dX5_mark_3 ?_
  obtain ⟨rr1, ee2, hs⟩ := tg_b1_e hs
  refine tg_pS (As := [.long (Int32.toInt64 p1), .long 0, .long 5]) (rest := []) C hl0 (kX5_in l D (Int32.toInt64 p1) 0 5 rr1 ee2) wm_768 meX5_in (by decide) rfl rfl (Nat.le_of_ble_eq_true rfl) dX5_mark_6 ?_
  refine tg_if_eq (tgt := 20) C dX5_mark_9 (by decide) (fun cc3 => ?_) (fun cc3 => ?_)
  · have hs := tg_t cc3 hs
    refine tg_ldc C wm_938 dX5_mark_20 ?_
    obtain ⟨rfl, rfl, rfl, rfl, rfl⟩ := tg_i5 hs
    exact tg_iret hE rfl dX5_mark_22
  · have hs := tg_f cc3 hs
    refine tg_aload_n C dX5_mark_12 rfl 0 rfl ?_
    refine tg_iload_n C dX5_mark_13 rfl 2 rfl ?_
    obtain ⟨rr4, ee5, hs⟩ := tg_b1_e hs
    refine tg_pVs (As := [.int p2]) (rest := []) C hl0 (kX5_isBerth l D o0 o1 o2 o3 o4 o5 o6 o7 o8 m_text m_size m_at m_begin m_token m_told m_read m_harbour m_now m_undone m_undos m_one m_two m_three m_chalks m_cb m_co m_trace m_kept p2 rr4 ee5) wm_839 meX5_isBerth (by decide) rfl rfl rfl rfl (Nat.le_of_ble_eq_true rfl) dX5_mark_14 ?_
    refine tg_if_ne (tgt := 23) C dX5_mark_17 (by decide) (fun cc6 => ?_) (fun cc6 => ?_)
    · have hs := tg_t cc6 hs
      refine tg_aload_n C dX5_mark_23 rfl 0 rfl ?_
      refine tg_dup C dX5_mark_24 rfl ?_
      refine tg_get (v := .long m_trace) C cfX5 0 rfl 17 (by decide) wm_722 rfl dX5_mark_25 ?_
      refine tg_iload_n C dX5_mark_28 rfl 1 rfl ?_
      obtain ⟨vv8, ee38, hs⟩ := tg_b1_e hs
      have JJ9 : tg_G X D 3 0 0 (tw_M D o0 o1 o2 o3 o4 o5 o6 o7 o8 m_text m_size m_at m_begin m_token m_told m_read m_harbour m_now m_undone m_undos m_one m_two m_three m_chalks m_cb m_co m_trace m_kept) [(0, .ref o0), (1, .int p1), (2, .int p2)] 83 [.long vv8, .long m_trace, .ref o0] := by
        refine tg_ladd C dX5_mark_83 ?_
        obtain ⟨vv14, evv14, hs⟩ := tg_nm_e hs
        refine tg_topl evv14 ?_
        refine tg_put (ws' := (tw_M D o0 o1 o2 o3 o4 o5 o6 o7 o8 m_text m_size m_at m_begin m_token m_told m_read m_harbour m_now m_undone m_undos m_one m_two m_three m_chalks m_cb m_co vv14 m_kept)) C V cfX5 0 rfl 17 (by decide) wm_722 rfl rfl rfl (Nat.le_of_ble_eq_true rfl) rfl dX5_mark_84 ?_
        refine tg_iload_n C dX5_mark_87 rfl 1 rfl ?_
        by_cases ss15 : p1 = 0
        · have hs := tg_t ss15 hs
          refine tg_swIn (off := 36) (tgt := 124) C 0 ss15 dX5_mark_88 (by decide) (by decide) ?_
          refine tg_iload_n C dX5_mark_124 rfl 2 rfl ?_
          obtain ⟨rfl, rfl, rfl, rfl, rfl⟩ := tg_i5 hs
          exact tg_iret hE rfl dX5_mark_125
        · have hs := tg_f ss15 hs
          by_cases ss16 : p1 = 1
          · have hs := tg_t ss16 hs
            refine tg_swIn (off := 38) (tgt := 126) C 1 ss16 dX5_mark_88 (by decide) (by decide) ?_
            refine tg_iload_n C dX5_mark_126 rfl 2 rfl ?_
            refine tg_aload_n C dX5_mark_127 rfl 0 rfl ?_
            refine tg_iload_n C dX5_mark_128 rfl 2 rfl ?_
            obtain ⟨rr17, vv18, vv19, vv20, ee21, hs⟩ := tg_b4_e hs
            refine tg_eVs (ws' := (tw_M D o0 o1 o2 o3 o4 o5 o6 o7 o8 m_text m_size m_at m_begin m_token m_told m_read m_harbour m_now m_undone m_undos vv18 vv19 vv20 m_chalks m_cb m_co vv14 m_kept)) (As := [.int p2]) (rest := [.int p2]) C V hl0 (kX5_chances l D o0 o1 o2 o3 o4 o5 o6 o7 o8 m_text m_size m_at m_begin m_token m_told m_read m_harbour m_now m_undone m_undos m_one m_two m_three m_chalks m_cb m_co vv14 m_kept p2 rr17 vv18 vv19 vv20 ee21) wm_943 meX5_chances (by decide) rfl rfl rfl rfl (Nat.le_of_ble_eq_true rfl) rfl dX5_mark_129 ?_
            refine tg_iadd C dX5_mark_132 ?_
            obtain ⟨rfl, rfl, rfl, rfl, rfl⟩ := tg_i5 hs
            exact tg_iret hE rfl dX5_mark_133
          · have hs := tg_f ss16 hs
            by_cases ss22 : p1 = 2
            · have hs := tg_t ss22 hs
              refine tg_swIn (off := 46) (tgt := 134) C 2 ss22 dX5_mark_88 (by decide) (by decide) ?_
              refine tg_iload_n C dX5_mark_134 rfl 2 rfl ?_
              refine tg_aload_n C dX5_mark_135 rfl 0 rfl ?_
              obtain ⟨rr23, ee24, hs⟩ := tg_b1_e hs
              refine tg_pVs (As := []) (rest := [.int p2]) C hl0 (kX5_taken l D o0 o1 o2 o3 o4 o5 o6 o7 o8 m_text m_size m_at m_begin m_token m_told m_read m_harbour m_now m_undone m_undos m_one m_two m_three m_chalks m_cb m_co vv14 m_kept rr23 ee24) wm_879 meX5_taken (by decide) rfl rfl rfl rfl (Nat.le_of_ble_eq_true rfl) dX5_mark_136 ?_
              obtain ⟨rr25, ee26, hs⟩ := tg_b1_e hs
              refine tg_pS (As := [.int rr23]) (rest := [.int p2]) C hl0 (kX5_many l D rr23 rr25 ee26) wm_856 meX5_many (by decide) rfl rfl (Nat.le_of_ble_eq_true rfl) dX5_mark_139 ?_
              refine tg_isub C dX5_mark_142 ?_
              obtain ⟨rfl, rfl, rfl, rfl, rfl⟩ := tg_i5 hs
              exact tg_iret hE rfl dX5_mark_143
            · have hs := tg_f ss22 hs
              by_cases ss27 : p1 = 3
              · have hs := tg_t ss27 hs
                refine tg_swIn (off := 56) (tgt := 144) C 3 ss27 dX5_mark_88 (by decide) (by decide) ?_
                refine tg_iconst (v := 2) C dX5_mark_144 (by decide) ?_
                refine tg_iload_n C dX5_mark_145 rfl 2 rfl ?_
                refine tg_aload_n C dX5_mark_146 rfl 0 rfl ?_
                refine tg_iload_n C dX5_mark_147 rfl 2 rfl ?_
                obtain ⟨rr28, vv29, vv30, vv31, ee32, hs⟩ := tg_b4_e hs
                refine tg_eVs (ws' := (tw_M D o0 o1 o2 o3 o4 o5 o6 o7 o8 m_text m_size m_at m_begin m_token m_told m_read m_harbour m_now m_undone m_undos vv29 vv30 vv31 m_chalks m_cb m_co vv14 m_kept)) (As := [.int p2]) (rest := [.int p2, .int 2]) C V hl0 (kX5_chances l D o0 o1 o2 o3 o4 o5 o6 o7 o8 m_text m_size m_at m_begin m_token m_told m_read m_harbour m_now m_undone m_undos m_one m_two m_three m_chalks m_cb m_co vv14 m_kept p2 rr28 vv29 vv30 vv31 ee32) wm_943 meX5_chances (by decide) rfl rfl rfl rfl (Nat.le_of_ble_eq_true rfl) rfl dX5_mark_148 ?_
                refine tg_iadd C dX5_mark_151 ?_
                refine tg_imul C dX5_mark_152 ?_
                obtain ⟨rfl, rfl, rfl, rfl, rfl⟩ := tg_i5 hs
                exact tg_iret hE rfl dX5_mark_153
              · have hs := tg_f ss27 hs
                by_cases ss33 : p1 = 4
                · have hs := tg_t ss33 hs
                  refine tg_swIn (off := 66) (tgt := 154) C 4 ss33 dX5_mark_88 (by decide) (by decide) ?_
                  refine tg_iload_n C dX5_mark_154 rfl 2 rfl ?_
                  refine tg_aload_n C dX5_mark_155 rfl 0 rfl ?_
                  obtain ⟨rr34, ee35, hs⟩ := tg_b1_e hs
                  refine tg_pVs (As := []) (rest := [.int p2]) C hl0 (kX5_taken l D o0 o1 o2 o3 o4 o5 o6 o7 o8 m_text m_size m_at m_begin m_token m_told m_read m_harbour m_now m_undone m_undos m_one m_two m_three m_chalks m_cb m_co vv14 m_kept rr34 ee35) wm_879 meX5_taken (by decide) rfl rfl rfl rfl (Nat.le_of_ble_eq_true rfl) dX5_mark_156 ?_
                  obtain ⟨rr36, ee37, hs⟩ := tg_b1_e hs
                  refine tg_pS (As := [.int rr34]) (rest := [.int p2]) C hl0 (kX5_many l D rr34 rr36 ee37) wm_856 meX5_many (by decide) rfl rfl (Nat.le_of_ble_eq_true rfl) dX5_mark_159 ?_
                  refine tg_isub C dX5_mark_162 ?_
                  refine tg_bipush (v := 7) C dX5_mark_163 (by decide) ?_
                  refine tg_aload_n C dX5_mark_165 rfl 0 rfl ?_
                  refine tg_get (v := .ref o4) C cfX5 0 rfl 8 (by decide) wm_713 rfl dX5_mark_166 ?_
                  refine tg_iconst (v := 1) C dX5_mark_169 (by decide) ?_
                  refine tg_iald C 4 0 rfl rfl (tg_vin (by decide)) dX5_mark_170 ?_
                  refine tg_topi (y := m_now 1) rfl ?_
                  refine tg_imul C dX5_mark_171 ?_
                  refine tg_iadd C dX5_mark_172 ?_
                  obtain ⟨rfl, rfl, rfl, rfl, rfl⟩ := tg_i5 hs
                  exact tg_iret hE rfl dX5_mark_173
                · have hs := tg_f ss33 hs
                  refine tg_swOut (tgt := 174) C (by have a0 := lv_neT (a := 0) ss15 rfl; have a1 := lv_neT (a := 1) ss16 rfl; have a2 := lv_neT (a := 2) ss22 rfl; have a3 := lv_neT (a := 3) ss27 rfl; have a4 := lv_neT (a := 4) ss33 rfl; omega) dX5_mark_88 (by decide) ?_
                  refine tg_iload_n C dX5_mark_174 rfl 2 rfl ?_
                  refine tg_aload_n C dX5_mark_175 rfl 0 rfl ?_
                  refine tg_get (v := .ref o4) C cfX5 0 rfl 8 (by decide) wm_713 rfl dX5_mark_176 ?_
                  refine tg_iconst (v := 3) C dX5_mark_179 (by decide) ?_
                  refine tg_iald C 4 0 rfl rfl (tg_vin (by decide)) dX5_mark_180 ?_
                  refine tg_topi (y := m_now 3) rfl ?_
                  refine tg_iadd C dX5_mark_181 ?_
                  refine tg_aload_n C dX5_mark_182 rfl 0 rfl ?_
                  refine tg_get (v := .ref o4) C cfX5 0 rfl 8 (by decide) wm_713 rfl dX5_mark_183 ?_
                  refine tg_iconst (v := 4) C dX5_mark_186 (by decide) ?_
                  refine tg_iald C 4 0 rfl rfl (tg_vin (by decide)) dX5_mark_187 ?_
                  refine tg_topi (y := m_now 4) rfl ?_
                  refine tg_iadd C dX5_mark_188 ?_
                  obtain ⟨rfl, rfl, rfl, rfl, rfl⟩ := tg_i5 hs
                  exact tg_iret hE rfl dX5_mark_189
      have hs := ee38
      clear ee38
      refine tg_if_ne (tgt := 36) C dX5_mark_29 (by decide) (fun cc7 => ?_) (fun cc7 => ?_)
      · have hs := tg_t cc7 hs
        refine tg_iload_n C dX5_mark_36 rfl 1 rfl ?_
        refine tg_iconst (v := 1) C dX5_mark_37 (by decide) ?_
        refine tg_icmp_ne (tgt := 47) C dX5_mark_38 (by decide) (fun cc10 => ?_) (fun cc10 => ?_)
        · have hs := tg_t cc10 hs
          refine tg_iload_n C dX5_mark_47 rfl 1 rfl ?_
          refine tg_iconst (v := 2) C dX5_mark_48 (by decide) ?_
          refine tg_icmp_ne (tgt := 58) C dX5_mark_49 (by decide) (fun cc11 => ?_) (fun cc11 => ?_)
          · have hs := tg_t cc11 hs
            refine tg_iload_n C dX5_mark_58 rfl 1 rfl ?_
            refine tg_iconst (v := 3) C dX5_mark_59 (by decide) ?_
            refine tg_icmp_ne (tgt := 69) C dX5_mark_60 (by decide) (fun cc12 => ?_) (fun cc12 => ?_)
            · have hs := tg_t cc12 hs
              refine tg_iload_n C dX5_mark_69 rfl 1 rfl ?_
              refine tg_iconst (v := 4) C dX5_mark_70 (by decide) ?_
              refine tg_icmp_ne (tgt := 80) C dX5_mark_71 (by decide) (fun cc13 => ?_) (fun cc13 => ?_)
              · have hs := tg_t cc13 hs
                refine tg_ldc2 C wm_1030 dX5_mark_80 ?_
                obtain rfl := Option.some.inj hs
                exact JJ9
              · have hs := tg_nf cc13 hs
                refine tg_ldc2 C wm_1029 dX5_mark_74 ?_
                refine tg_goto (tgt := 83) C dX5_mark_77 (by decide) ?_
                obtain rfl := Option.some.inj hs
                exact JJ9
            · have hs := tg_nf cc12 hs
              refine tg_ldc2 C wm_1028 dX5_mark_63 ?_
              refine tg_goto (tgt := 83) C dX5_mark_66 (by decide) ?_
              obtain rfl := Option.some.inj hs
              exact JJ9
          · have hs := tg_nf cc11 hs
            refine tg_ldc2 C wm_1027 dX5_mark_52 ?_
            refine tg_goto (tgt := 83) C dX5_mark_55 (by decide) ?_
            obtain rfl := Option.some.inj hs
            exact JJ9
        · have hs := tg_nf cc10 hs
          refine tg_ldc2 C wm_1026 dX5_mark_41 ?_
          refine tg_goto (tgt := 83) C dX5_mark_44 (by decide) ?_
          obtain rfl := Option.some.inj hs
          exact JJ9
      · have hs := tg_nf cc7 hs
        refine tg_lconst (v := 1) C dX5_mark_32 (by decide) ?_
        refine tg_goto (tgt := 83) C dX5_mark_33 (by decide) ?_
        obtain rfl := Option.some.inj hs
        exact JJ9
    · have hs := tg_nf cc6 hs
      refine tg_ldc C wm_938 dX5_mark_20 ?_
      obtain ⟨rfl, rfl, rfl, rfl, rfl⟩ := tg_i5 hs
      exact tg_iret hE rfl dX5_mark_22
set_option maxHeartbeats 2000000 in
set_option maxRecDepth 20000 in
theorem kX5_mark (l : Launch) (D : tg_D) (o0 o1 o2 o3 o4 o5 o6 o7 o8 : Nat) (m_text : Nat → Int32) (m_size : Int32) (m_at : Int32) (m_begin : Int32) (m_token : Int32) (m_told : Int32) (m_read : Nat → Int32) (m_harbour : Nat → Int32) (m_now : Nat → Int32) (m_undone : Nat → Int32) (m_undos : Int32) (m_one : Int32) (m_two : Int32) (m_three : Int32) (m_chalks : Int32) (m_cb : Nat → Int32) (m_co : Nat → Int32) (m_trace : Int64) (m_kept : Nat → Int32) (p1 : Int32) (p2 : Int32) (r : Int32) (q_m_one : Int32) (q_m_two : Int32) (q_m_three : Int32) (q_m_trace : Int64) (hs : fX5_mark m_harbour m_now m_one m_two m_three m_trace p1 p2 = some (r, q_m_one, q_m_two, q_m_three, q_m_trace)) : Met l yX5_mark [Cond.code yX5_mark cX5_mark 3 (some .int)] (tg_rm 4 91) (tg_Pre D (tw_M D o0 o1 o2 o3 o4 o5 o6 o7 o8 m_text m_size m_at m_begin m_token m_told m_read m_harbour m_now m_undone m_undos m_one m_two m_three m_chalks m_cb m_co m_trace m_kept) [.ref o0, .int p1, .int p2]) (tg_Qe (some (.int r)) D (tw_M D o0 o1 o2 o3 o4 o5 o6 o7 o8 m_text m_size m_at m_begin m_token m_told m_read m_harbour m_now m_undone m_undos q_m_one q_m_two q_m_three m_chalks m_cb m_co q_m_trace m_kept) (tg_Ad (tw_M D o0 o1 o2 o3 o4 o5 o6 o7 o8 m_text m_size m_at m_begin m_token m_told m_read m_harbour m_now m_undone m_undos m_one m_two m_three m_chalks m_cb m_co m_trace m_kept))) 0 0 (tg_Ad (tw_M D o0 o1 o2 o3 o4 o5 o6 o7 o8 m_text m_size m_at m_begin m_token m_told m_read m_harbour m_now m_undone m_undos m_one m_two m_three m_chalks m_cb m_co m_trace m_kept)) := tg_metEi (by decide) (Nat.le_of_ble_eq_true rfl) (fun X hl0 C V hE => vX5_mark l D o0 o1 o2 o3 o4 o5 o6 o7 o8 m_text m_size m_at m_begin m_token m_told m_read m_harbour m_now m_undone m_undos m_one m_two m_three m_chalks m_cb m_co m_trace m_kept p1 p2 X hl0 C V r q_m_one q_m_two q_m_three q_m_trace hs hE)
def fX5_trace (m_trace : Int64) : Option (Int64) := some m_trace
set_option maxHeartbeats 2000000 in
set_option maxRecDepth 20000 in
theorem vX5_trace (l : Launch) (D : tg_D) (o0 o1 o2 o3 o4 o5 o6 o7 o8 : Nat) (m_text : Nat → Int32) (m_size : Int32) (m_at : Int32) (m_begin : Int32) (m_token : Int32) (m_told : Int32) (m_read : Nat → Int32) (m_harbour : Nat → Int32) (m_now : Nat → Int32) (m_undone : Nat → Int32) (m_undos : Int32) (m_one : Int32) (m_two : Int32) (m_three : Int32) (m_chalks : Int32) (m_cb : Nat → Int32) (m_co : Nat → Int32) (m_trace : Int64) (m_kept : Nat → Int32) (X : tg_X) (hl0 : tg_l X = l) (C : tg_C X D 1 cX5_trace RX5 0 0 0 0) (r : Int64) (hs : fX5_trace m_trace = some r) (hE : tg_El X D 0 0 cX5_trace r (tw_M D o0 o1 o2 o3 o4 o5 o6 o7 o8 m_text m_size m_at m_begin m_token m_told m_read m_harbour m_now m_undone m_undos m_one m_two m_three m_chalks m_cb m_co m_trace m_kept)) : tg_G X D 1 0 0 (tw_M D o0 o1 o2 o3 o4 o5 o6 o7 o8 m_text m_size m_at m_begin m_token m_told m_read m_harbour m_now m_undone m_undos m_one m_two m_three m_chalks m_cb m_co m_trace m_kept) [(0, .ref o0)] 0 [] := by
  unfold fX5_trace at hs
  refine tg_aload_n C dX5_trace_0 rfl 0 rfl ?_
  refine tg_get (v := .long m_trace) C cfX5 0 rfl 17 (by decide) wm_722 rfl dX5_trace_1 ?_
  obtain rfl := Option.some.inj hs
  exact tg_lret hE dX5_trace_4
set_option maxHeartbeats 2000000 in
set_option maxRecDepth 20000 in
theorem kX5_trace (l : Launch) (D : tg_D) (o0 o1 o2 o3 o4 o5 o6 o7 o8 : Nat) (m_text : Nat → Int32) (m_size : Int32) (m_at : Int32) (m_begin : Int32) (m_token : Int32) (m_told : Int32) (m_read : Nat → Int32) (m_harbour : Nat → Int32) (m_now : Nat → Int32) (m_undone : Nat → Int32) (m_undos : Int32) (m_one : Int32) (m_two : Int32) (m_three : Int32) (m_chalks : Int32) (m_cb : Nat → Int32) (m_co : Nat → Int32) (m_trace : Int64) (m_kept : Nat → Int32) (r : Int64) (hs : fX5_trace m_trace = some r) : Met l yX5_trace [Cond.code yX5_trace cX5_trace 1 (some .long)] (tg_rm 0 0) (tg_Pre D (tw_M D o0 o1 o2 o3 o4 o5 o6 o7 o8 m_text m_size m_at m_begin m_token m_told m_read m_harbour m_now m_undone m_undos m_one m_two m_three m_chalks m_cb m_co m_trace m_kept) [.ref o0]) (vp_Sl (fun r' => r' = r)) 0 0 (fun _ => False) := tg_metL (by decide) (Nat.le_of_ble_eq_true rfl) (fun X hl0 C hE => vX5_trace l D o0 o1 o2 o3 o4 o5 o6 o7 o8 m_text m_size m_at m_begin m_token m_told m_read m_harbour m_now m_undone m_undos m_one m_two m_three m_chalks m_cb m_co m_trace m_kept X hl0 C r hs hE)
def fX5_keep_L39 (m_now : Nat → Int32) (n2 : Int32) : Nat → (Nat → Int32) → Int32 → Option ((Nat → Int32) × Int32)
  | 0, _, _ => none
  | fuel + 1, m_kept, n3 => if 27 ≤ n3 then (some (m_kept, n3)) else (tg_ck n3 27 <| tg_nm (m_now (Int32.toNatClampNeg n3)) fun vv11 => tg_ck ((n2 + 2) + n3) 706 <| tg_nm (upd m_kept (Int32.toNatClampNeg ((n2 + 2) + n3)) vv11) fun gg12 => tg_nm (n3 + 1) fun vv14 => fX5_keep_L39 m_now n2 fuel gg12 vv14)
def fX5_keep_L69 (m_undone : Nat → Int32) (n2 : Int32) : Nat → (Nat → Int32) → Int32 → Option ((Nat → Int32) × Int32)
  | 0, _, _ => none
  | fuel + 1, m_kept, n3 => if 324 ≤ n3 then (some (m_kept, n3)) else (tg_ck n3 324 <| tg_nm (m_undone (Int32.toNatClampNeg n3)) fun vv20 => tg_ck ((n2 + 29) + n3) 706 <| tg_nm (upd m_kept (Int32.toNatClampNeg ((n2 + 29) + n3)) vv20) fun gg21 => tg_nm (n3 + 1) fun vv23 => fX5_keep_L69 m_undone n2 fuel gg21 vv23)
def fX5_keep (m_now : Nat → Int32) (m_undone : Nat → Int32) (m_undos : Int32) (m_kept : Nat → Int32) (p1 : Int32) : Option (Int32 × (Nat → Int32)) := tg_b1 (fX5_in (Int32.toInt64 p1) 0 1) fun rr1 => if ¬ rr1 = 0 then (tg_nm (353 * p1) fun vv4 => tg_ck vv4 706 <| tg_nm (upd m_kept (Int32.toNatClampNeg vv4) 1) fun gg5 => tg_ck (vv4 + 1) 706 <| tg_nm (upd gg5 (Int32.toNatClampNeg (vv4 + 1)) m_undos) fun gg7 => tg_b2 (fX5_keep_L39 m_now vv4 400 gg7 0) fun vv15 vv16 => tg_b2 (fX5_keep_L69 m_undone vv4 400 vv15 0) fun vv24 vv25 => some (m_now 0, vv24)) else (some ((-1), m_kept))
set_option maxHeartbeats 2000000 in
set_option maxRecDepth 20000 in
theorem vX5_keep_L39 (l : Launch) (D : tg_D) (o0 o1 o2 o3 o4 o5 o6 o7 o8 : Nat) (m_text : Nat → Int32) (m_size : Int32) (m_at : Int32) (m_begin : Int32) (m_token : Int32) (m_told : Int32) (m_read : Nat → Int32) (m_harbour : Nat → Int32) (m_now : Nat → Int32) (m_undone : Nat → Int32) (m_undos : Int32) (m_one : Int32) (m_two : Int32) (m_three : Int32) (m_chalks : Int32) (m_cb : Nat → Int32) (m_co : Nat → Int32) (m_trace : Int64) (n1 : Int32) (n2 : Int32) (X : tg_X) (hl0 : tg_l X = l) (C : tg_C X D 4 cX5_keep RX5 1 25 0 0) (V : tg_V X) (o_m_kept : Nat → Int32) (o_n3 : Int32) : ∀ (fuel : Nat) (m_kept : Nat → Int32) (n3 : Int32), fX5_keep_L39 m_now n2 fuel m_kept n3 = some (o_m_kept, o_n3) → tg_G X D 4 0 0 (tw_M D o0 o1 o2 o3 o4 o5 o6 o7 o8 m_text m_size m_at m_begin m_token m_told m_read m_harbour m_now m_undone m_undos m_one m_two m_three m_chalks m_cb m_co m_trace o_m_kept) [(0, .ref o0), (1, .int n1), (2, .int n2), (3, .int o_n3)] 67 [] → tg_G X D 4 0 0 (tw_M D o0 o1 o2 o3 o4 o5 o6 o7 o8 m_text m_size m_at m_begin m_token m_told m_read m_harbour m_now m_undone m_undos m_one m_two m_three m_chalks m_cb m_co m_trace m_kept) [(0, .ref o0), (1, .int n1), (2, .int n2), (3, .int n3)] 39 [] := by
  intro fuel
  induction fuel with
  | zero =>
    intro m_kept n3 hs _
    rw [fX5_keep_L39] at hs
    cases hs
  | succ fuel ih =>
    intro m_kept n3 hs J
    rw [fX5_keep_L39] at hs
    refine tg_iload_n C dX5_keep_39 rfl 3 rfl ?_
    refine tg_bipush (v := 27) C dX5_keep_40 (by decide) ?_
    refine tg_icmp_ge (tgt := 67) C dX5_keep_42 (by decide) (fun cc9 => ?_) (fun cc9 => ?_)
    · have hs := tg_t cc9 hs
      obtain ⟨rfl, rfl⟩ := tg_i2 hs
      exact J
    · have hs := tg_f cc9 hs
      refine tg_aload_n C dX5_keep_45 rfl 0 rfl ?_
      refine tg_get (v := .ref o8) C cfX5 0 rfl 18 (by decide) wm_723 rfl dX5_keep_46 ?_
      refine tg_iload_n C dX5_keep_49 rfl 2 rfl ?_
      refine tg_iconst (v := 2) C dX5_keep_50 (by decide) ?_
      refine tg_iadd C dX5_keep_51 ?_
      refine tg_iload_n C dX5_keep_52 rfl 3 rfl ?_
      refine tg_iadd C dX5_keep_53 ?_
      refine tg_aload_n C dX5_keep_54 rfl 0 rfl ?_
      refine tg_get (v := .ref o4) C cfX5 0 rfl 8 (by decide) wm_713 rfl dX5_keep_55 ?_
      refine tg_iload_n C dX5_keep_58 rfl 3 rfl ?_
      obtain ⟨hh10, hs⟩ := tg_ck_e hs
      refine tg_iald C 4 0 rfl rfl hh10 dX5_keep_59 ?_
      obtain ⟨vv11, evv11, hs⟩ := tg_nm_e hs
      refine tg_topi evv11 ?_
      obtain ⟨hh13, hs⟩ := tg_ck_e hs
      obtain ⟨gg12, egg12, hs⟩ := tg_nm_e hs
      refine tg_iast (ws' := (tw_M D o0 o1 o2 o3 o4 o5 o6 o7 o8 m_text m_size m_at m_begin m_token m_told m_read m_harbour m_now m_undone m_undos m_one m_two m_three m_chalks m_cb m_co m_trace gg12)) C V 8 0 rfl rfl hh13 egg12 rfl dX5_keep_60 ?_
      obtain ⟨vv14, evv14, hs⟩ := tg_nm_e hs
      refine tg_iinc (v := vv14) (lv' := [(3, .int vv14), (0, .ref o0), (1, .int n1), (2, .int n2)]) C dX5_keep_61 3 rfl (by rw [evv14]; rfl) (by decide) rfl ?_
      refine tg_goto (tgt := 39) C dX5_keep_64 (by decide) ?_
      refine tg_lsub [1, 2, 3, 0] rfl ?_
      exact ih gg12 vv14 hs J
set_option maxHeartbeats 2000000 in
set_option maxRecDepth 20000 in
theorem vX5_keep_L69 (l : Launch) (D : tg_D) (o0 o1 o2 o3 o4 o5 o6 o7 o8 : Nat) (m_text : Nat → Int32) (m_size : Int32) (m_at : Int32) (m_begin : Int32) (m_token : Int32) (m_told : Int32) (m_read : Nat → Int32) (m_harbour : Nat → Int32) (m_now : Nat → Int32) (m_undone : Nat → Int32) (m_undos : Int32) (m_one : Int32) (m_two : Int32) (m_three : Int32) (m_chalks : Int32) (m_cb : Nat → Int32) (m_co : Nat → Int32) (m_trace : Int64) (n1 : Int32) (n2 : Int32) (X : tg_X) (hl0 : tg_l X = l) (C : tg_C X D 4 cX5_keep RX5 1 25 0 0) (V : tg_V X) (o_m_kept : Nat → Int32) (o_n3 : Int32) : ∀ (fuel : Nat) (m_kept : Nat → Int32) (n3 : Int32), fX5_keep_L69 m_undone n2 fuel m_kept n3 = some (o_m_kept, o_n3) → tg_G X D 4 0 0 (tw_M D o0 o1 o2 o3 o4 o5 o6 o7 o8 m_text m_size m_at m_begin m_token m_told m_read m_harbour m_now m_undone m_undos m_one m_two m_three m_chalks m_cb m_co m_trace o_m_kept) [(0, .ref o0), (1, .int n1), (2, .int n2), (3, .int o_n3)] 99 [] → tg_G X D 4 0 0 (tw_M D o0 o1 o2 o3 o4 o5 o6 o7 o8 m_text m_size m_at m_begin m_token m_told m_read m_harbour m_now m_undone m_undos m_one m_two m_three m_chalks m_cb m_co m_trace m_kept) [(0, .ref o0), (1, .int n1), (2, .int n2), (3, .int n3)] 69 [] := by
  intro fuel
  induction fuel with
  | zero =>
    intro m_kept n3 hs _
    rw [fX5_keep_L69] at hs
    cases hs
  | succ fuel ih =>
    intro m_kept n3 hs J
    rw [fX5_keep_L69] at hs
    refine tg_iload_n C dX5_keep_69 rfl 3 rfl ?_
    refine tg_sipush (v := 324) C dX5_keep_70 (by decide) ?_
    refine tg_icmp_ge (tgt := 99) C dX5_keep_73 (by decide) (fun cc18 => ?_) (fun cc18 => ?_)
    · have hs := tg_t cc18 hs
      obtain ⟨rfl, rfl⟩ := tg_i2 hs
      exact J
    · have hs := tg_f cc18 hs
      refine tg_aload_n C dX5_keep_76 rfl 0 rfl ?_
      refine tg_get (v := .ref o8) C cfX5 0 rfl 18 (by decide) wm_723 rfl dX5_keep_77 ?_
      refine tg_iload_n C dX5_keep_80 rfl 2 rfl ?_
      refine tg_bipush (v := 29) C dX5_keep_81 (by decide) ?_
      refine tg_iadd C dX5_keep_83 ?_
      refine tg_iload_n C dX5_keep_84 rfl 3 rfl ?_
      refine tg_iadd C dX5_keep_85 ?_
      refine tg_aload_n C dX5_keep_86 rfl 0 rfl ?_
      refine tg_get (v := .ref o5) C cfX5 0 rfl 9 (by decide) wm_714 rfl dX5_keep_87 ?_
      refine tg_iload_n C dX5_keep_90 rfl 3 rfl ?_
      obtain ⟨hh19, hs⟩ := tg_ck_e hs
      refine tg_iald C 5 0 rfl rfl hh19 dX5_keep_91 ?_
      obtain ⟨vv20, evv20, hs⟩ := tg_nm_e hs
      refine tg_topi evv20 ?_
      obtain ⟨hh22, hs⟩ := tg_ck_e hs
      obtain ⟨gg21, egg21, hs⟩ := tg_nm_e hs
      refine tg_iast (ws' := (tw_M D o0 o1 o2 o3 o4 o5 o6 o7 o8 m_text m_size m_at m_begin m_token m_told m_read m_harbour m_now m_undone m_undos m_one m_two m_three m_chalks m_cb m_co m_trace gg21)) C V 8 0 rfl rfl hh22 egg21 rfl dX5_keep_92 ?_
      obtain ⟨vv23, evv23, hs⟩ := tg_nm_e hs
      refine tg_iinc (v := vv23) (lv' := [(3, .int vv23), (0, .ref o0), (1, .int n1), (2, .int n2)]) C dX5_keep_93 3 rfl (by rw [evv23]; rfl) (by decide) rfl ?_
      refine tg_goto (tgt := 69) C dX5_keep_96 (by decide) ?_
      refine tg_lsub [1, 2, 3, 0] rfl ?_
      exact ih gg21 vv23 hs J
set_option maxHeartbeats 2000000 in
set_option maxRecDepth 20000 in
theorem vX5_keep (l : Launch) (D : tg_D) (o0 o1 o2 o3 o4 o5 o6 o7 o8 : Nat) (m_text : Nat → Int32) (m_size : Int32) (m_at : Int32) (m_begin : Int32) (m_token : Int32) (m_told : Int32) (m_read : Nat → Int32) (m_harbour : Nat → Int32) (m_now : Nat → Int32) (m_undone : Nat → Int32) (m_undos : Int32) (m_one : Int32) (m_two : Int32) (m_three : Int32) (m_chalks : Int32) (m_cb : Nat → Int32) (m_co : Nat → Int32) (m_trace : Int64) (m_kept : Nat → Int32) (p1 : Int32) (X : tg_X) (hl0 : tg_l X = l) (C : tg_C X D 4 cX5_keep RX5 1 25 0 0) (V : tg_V X) (r : Int32) (q_m_kept : Nat → Int32) (hs : fX5_keep m_now m_undone m_undos m_kept p1 = some (r, q_m_kept)) (hE : tg_Ei X D 0 0 cX5_keep .int r (tw_M D o0 o1 o2 o3 o4 o5 o6 o7 o8 m_text m_size m_at m_begin m_token m_told m_read m_harbour m_now m_undone m_undos m_one m_two m_three m_chalks m_cb m_co m_trace q_m_kept)) : tg_G X D 4 0 0 (tw_M D o0 o1 o2 o3 o4 o5 o6 o7 o8 m_text m_size m_at m_begin m_token m_told m_read m_harbour m_now m_undone m_undos m_one m_two m_three m_chalks m_cb m_co m_trace m_kept) [(0, .ref o0), (1, .int p1)] 0 [] := by
  unfold fX5_keep at hs
  refine tg_iload_n C dX5_keep_0 rfl 1 rfl ?_
  refine tg_i2l C dX5_keep_1 ?_
  refine tg_lconst (v := 0) C dX5_keep_2 (by decide) ?_
  refine tg_lconst (v := 1) C dX5_keep_3 (by decide) ?_
  obtain ⟨rr1, ee2, hs⟩ := tg_b1_e hs
  refine tg_pS (As := [.long (Int32.toInt64 p1), .long 0, .long 1]) (rest := []) C hl0 (kX5_in l D (Int32.toInt64 p1) 0 1 rr1 ee2) wm_768 meX5_in (by decide) rfl rfl (Nat.le_of_ble_eq_true rfl) dX5_keep_4 ?_
  refine tg_if_ne (tgt := 12) C dX5_keep_7 (by decide) (fun cc3 => ?_) (fun cc3 => ?_)
  · have hs := tg_t cc3 hs
    refine tg_sipush (v := 353) C dX5_keep_12 (by decide) ?_
    refine tg_iload_n C dX5_keep_15 rfl 1 rfl ?_
    refine tg_imul C dX5_keep_16 ?_
    obtain ⟨vv4, evv4, hs⟩ := tg_nm_e hs
    refine tg_topi evv4 ?_
    refine tg_istore_n (lv' := [(2, .int vv4), (0, .ref o0), (1, .int p1)]) C dX5_keep_17 rfl (by decide) rfl ?_
    refine tg_aload_n C dX5_keep_18 rfl 1 rfl ?_
    refine tg_get (v := .ref o8) C cfX5 0 rfl 18 (by decide) wm_723 rfl dX5_keep_19 ?_
    refine tg_iload_n C dX5_keep_22 rfl 0 rfl ?_
    refine tg_iconst (v := 1) C dX5_keep_23 (by decide) ?_
    obtain ⟨hh6, hs⟩ := tg_ck_e hs
    obtain ⟨gg5, egg5, hs⟩ := tg_nm_e hs
    refine tg_iast (ws' := (tw_M D o0 o1 o2 o3 o4 o5 o6 o7 o8 m_text m_size m_at m_begin m_token m_told m_read m_harbour m_now m_undone m_undos m_one m_two m_three m_chalks m_cb m_co m_trace gg5)) C V 8 0 rfl rfl hh6 egg5 rfl dX5_keep_24 ?_
    refine tg_aload_n C dX5_keep_25 rfl 1 rfl ?_
    refine tg_get (v := .ref o8) C cfX5 0 rfl 18 (by decide) wm_723 rfl dX5_keep_26 ?_
    refine tg_iload_n C dX5_keep_29 rfl 0 rfl ?_
    refine tg_iconst (v := 1) C dX5_keep_30 (by decide) ?_
    refine tg_iadd C dX5_keep_31 ?_
    refine tg_aload_n C dX5_keep_32 rfl 1 rfl ?_
    refine tg_get (v := .int m_undos) C cfX5 0 rfl 10 (by decide) wm_715 rfl dX5_keep_33 ?_
    obtain ⟨hh8, hs⟩ := tg_ck_e hs
    obtain ⟨gg7, egg7, hs⟩ := tg_nm_e hs
    refine tg_iast (ws' := (tw_M D o0 o1 o2 o3 o4 o5 o6 o7 o8 m_text m_size m_at m_begin m_token m_told m_read m_harbour m_now m_undone m_undos m_one m_two m_three m_chalks m_cb m_co m_trace gg7)) C V 8 0 rfl rfl hh8 egg7 rfl dX5_keep_36 ?_
    refine tg_iconst (v := 0) C dX5_keep_37 (by decide) ?_
    refine tg_istore_n (lv' := [(3, .int 0), (2, .int vv4), (0, .ref o0), (1, .int p1)]) C dX5_keep_38 rfl (by decide) rfl ?_
    refine tg_lsub [2, 3, 1, 0] rfl ?_
    obtain ⟨vv15, vv16, ee17, hs⟩ := tg_b2_e hs
    refine vX5_keep_L39 l D o0 o1 o2 o3 o4 o5 o6 o7 o8 m_text m_size m_at m_begin m_token m_told m_read m_harbour m_now m_undone m_undos m_one m_two m_three m_chalks m_cb m_co m_trace p1 vv4 X hl0 C V vv15 vv16 400 gg7 0 ee17 ?_
    refine tg_iconst (v := 0) C dX5_keep_67 (by decide) ?_
    refine tg_istore_n (lv' := [(3, .int 0), (0, .ref o0), (1, .int p1), (2, .int vv4)]) C dX5_keep_68 rfl (by decide) rfl ?_
    refine tg_lsub [1, 2, 3, 0] rfl ?_
    obtain ⟨vv24, vv25, ee26, hs⟩ := tg_b2_e hs
    refine vX5_keep_L69 l D o0 o1 o2 o3 o4 o5 o6 o7 o8 m_text m_size m_at m_begin m_token m_told m_read m_harbour m_now m_undone m_undos m_one m_two m_three m_chalks m_cb m_co m_trace p1 vv4 X hl0 C V vv24 vv25 400 vv15 0 ee26 ?_
    refine tg_aload_n C dX5_keep_99 rfl 0 rfl ?_
    refine tg_get (v := .ref o4) C cfX5 0 rfl 8 (by decide) wm_713 rfl dX5_keep_100 ?_
    refine tg_iconst (v := 0) C dX5_keep_103 (by decide) ?_
    refine tg_iald C 4 0 rfl rfl (tg_vin (by decide)) dX5_keep_104 ?_
    refine tg_topi (y := m_now 0) rfl ?_
    obtain ⟨rfl, rfl⟩ := tg_i2 hs
    exact tg_iret hE rfl dX5_keep_105
  · have hs := tg_nf cc3 hs
    refine tg_iconst (v := (-1)) C dX5_keep_10 (by decide) ?_
    obtain ⟨rfl, rfl⟩ := tg_i2 hs
    exact tg_iret hE rfl dX5_keep_11
set_option maxHeartbeats 2000000 in
set_option maxRecDepth 20000 in
theorem kX5_keep (l : Launch) (D : tg_D) (o0 o1 o2 o3 o4 o5 o6 o7 o8 : Nat) (m_text : Nat → Int32) (m_size : Int32) (m_at : Int32) (m_begin : Int32) (m_token : Int32) (m_told : Int32) (m_read : Nat → Int32) (m_harbour : Nat → Int32) (m_now : Nat → Int32) (m_undone : Nat → Int32) (m_undos : Int32) (m_one : Int32) (m_two : Int32) (m_three : Int32) (m_chalks : Int32) (m_cb : Nat → Int32) (m_co : Nat → Int32) (m_trace : Int64) (m_kept : Nat → Int32) (p1 : Int32) (r : Int32) (q_m_kept : Nat → Int32) (hs : fX5_keep m_now m_undone m_undos m_kept p1 = some (r, q_m_kept)) : Met l yX5_keep [Cond.code yX5_keep cX5_keep 4 (some .int)] (tg_rm 1 25) (tg_Pre D (tw_M D o0 o1 o2 o3 o4 o5 o6 o7 o8 m_text m_size m_at m_begin m_token m_told m_read m_harbour m_now m_undone m_undos m_one m_two m_three m_chalks m_cb m_co m_trace m_kept) [.ref o0, .int p1]) (tg_Qe (some (.int r)) D (tw_M D o0 o1 o2 o3 o4 o5 o6 o7 o8 m_text m_size m_at m_begin m_token m_told m_read m_harbour m_now m_undone m_undos m_one m_two m_three m_chalks m_cb m_co m_trace q_m_kept) (tg_Ad (tw_M D o0 o1 o2 o3 o4 o5 o6 o7 o8 m_text m_size m_at m_begin m_token m_told m_read m_harbour m_now m_undone m_undos m_one m_two m_three m_chalks m_cb m_co m_trace m_kept))) 0 0 (tg_Ad (tw_M D o0 o1 o2 o3 o4 o5 o6 o7 o8 m_text m_size m_at m_begin m_token m_told m_read m_harbour m_now m_undone m_undos m_one m_two m_three m_chalks m_cb m_co m_trace m_kept)) := tg_metEi (by decide) (Nat.le_of_ble_eq_true rfl) (fun X hl0 C V hE => vX5_keep l D o0 o1 o2 o3 o4 o5 o6 o7 o8 m_text m_size m_at m_begin m_token m_told m_read m_harbour m_now m_undone m_undos m_one m_two m_three m_chalks m_cb m_co m_trace m_kept p1 X hl0 C V r q_m_kept hs hE)
