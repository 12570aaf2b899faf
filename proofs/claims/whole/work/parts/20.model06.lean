def fX5_opensThen (m_harbour : Nat → Int32) (m_now : Nat → Int32) (m_one : Int32) (m_two : Int32) (m_three : Int32) : Option (Int32) := tg_b1 (fX5_isDouble m_one m_two m_three) fun rr1 => tg_b1 (if rr1 = 0 then (some (m_now 1)) else (some (1 - (m_now 1)))) fun (vv4 : Int32) => tg_b1 (fX5_opened m_harbour m_one m_two m_three vv4) fun rr6 => some rr6
set_option maxHeartbeats 2000000 in
set_option maxRecDepth 20000 in
theorem vX5_opensThen (l : Launch) (D : tg_D) (o0 o1 o2 o3 o4 o5 o6 o7 o8 : Nat) (m_text : Nat → Int32) (m_size : Int32) (m_at : Int32) (m_begin : Int32) (m_token : Int32) (m_told : Int32) (m_read : Nat → Int32) (m_harbour : Nat → Int32) (m_now : Nat → Int32) (m_undone : Nat → Int32) (m_undos : Int32) (m_one : Int32) (m_two : Int32) (m_three : Int32) (m_chalks : Int32) (m_cb : Nat → Int32) (m_co : Nat → Int32) (m_trace : Int64) (m_kept : Nat → Int32) (X : tg_X) (hl0 : tg_l X = l) (C : tg_C X D 1 cX5_opensThen RX5 1 27 0 0) (r : Int32) (hs : fX5_opensThen m_harbour m_now m_one m_two m_three = some r) (hE : tg_Ei X D 0 0 cX5_opensThen .int r (tw_M D o0 o1 o2 o3 o4 o5 o6 o7 o8 m_text m_size m_at m_begin m_token m_told m_read m_harbour m_now m_undone m_undos m_one m_two m_three m_chalks m_cb m_co m_trace m_kept)) : tg_G X D 1 0 0 (tw_M D o0 o1 o2 o3 o4 o5 o6 o7 o8 m_text m_size m_at m_begin m_token m_told m_read m_harbour m_now m_undone m_undos m_one m_two m_three m_chalks m_cb m_co m_trace m_kept) [(0, .ref o0)] 0 [] := by
  unfold fX5_opensThen at hs
  refine tg_aload_n C dX5_opensThen_0 rfl 0 rfl ?_
  refine tg_aload_n C dX5_opensThen_1 rfl 0 rfl ?_
  refine tg_get (v := .int m_one) C cfX5 0 rfl 11 (by decide) wm_716 rfl dX5_opensThen_2 ?_
  refine tg_aload_n C dX5_opensThen_5 rfl 0 rfl ?_
  refine tg_get (v := .int m_two) C cfX5 0 rfl 12 (by decide) wm_717 rfl dX5_opensThen_6 ?_
  refine tg_aload_n C dX5_opensThen_9 rfl 0 rfl ?_
  refine tg_get (v := .int m_three) C cfX5 0 rfl 13 (by decide) wm_718 rfl dX5_opensThen_10 ?_
  refine tg_aload_n C dX5_opensThen_13 rfl 0 rfl ?_
  refine tg_get (v := .int m_one) C cfX5 0 rfl 11 (by decide) wm_716 rfl dX5_opensThen_14 ?_
  refine tg_aload_n C dX5_opensThen_17 rfl 0 rfl ?_
  refine tg_get (v := .int m_two) C cfX5 0 rfl 12 (by decide) wm_717 rfl dX5_opensThen_18 ?_
  refine tg_aload_n C dX5_opensThen_21 rfl 0 rfl ?_
  refine tg_get (v := .int m_three) C cfX5 0 rfl 13 (by decide) wm_718 rfl dX5_opensThen_22 ?_
  obtain ⟨rr1, ee2, hs⟩ := tg_b1_e hs
  refine tg_pS (As := [.int m_one, .int m_two, .int m_three]) (rest := [.int m_three, .int m_two, .int m_one, .ref o0]) C hl0 (kX5_isDouble l D m_one m_two m_three rr1 ee2) wm_899 meX5_isDouble (by decide) rfl rfl (Nat.le_of_ble_eq_true rfl) dX5_opensThen_25 ?_
  obtain ⟨vv4, ee8, hs⟩ := tg_b1_e hs
  have JJ5 : tg_G X D 1 0 0 (tw_M D o0 o1 o2 o3 o4 o5 o6 o7 o8 m_text m_size m_at m_begin m_token m_told m_read m_harbour m_now m_undone m_undos m_one m_two m_three m_chalks m_cb m_co m_trace m_kept) [(0, .ref o0)] 48 [.int vv4, .int m_three, .int m_two, .int m_one, .ref o0] := by
    obtain ⟨rr6, ee7, hs⟩ := tg_b1_e hs
    refine tg_pVs (As := [.int m_one, .int m_two, .int m_three, .int vv4]) (rest := []) C hl0 (kX5_opened l D o0 o1 o2 o3 o4 o5 o6 o7 o8 m_text m_size m_at m_begin m_token m_told m_read m_harbour m_now m_undone m_undos m_one m_two m_three m_chalks m_cb m_co m_trace m_kept m_one m_two m_three vv4 rr6 ee7) wm_871 meX5_opened (by decide) rfl rfl rfl rfl (Nat.le_of_ble_eq_true rfl) dX5_opensThen_48 ?_
    obtain rfl := Option.some.inj hs
    exact tg_iret hE rfl dX5_opensThen_51
  have hs := ee8
  clear ee8
  refine tg_if_eq (tgt := 42) C dX5_opensThen_28 (by decide) (fun cc3 => ?_) (fun cc3 => ?_)
  · have hs := tg_t cc3 hs
    refine tg_aload_n C dX5_opensThen_42 rfl 0 rfl ?_
    refine tg_get (v := .ref o4) C cfX5 0 rfl 8 (by decide) wm_713 rfl dX5_opensThen_43 ?_
    refine tg_iconst (v := 1) C dX5_opensThen_46 (by decide) ?_
    refine tg_iald C 4 0 rfl rfl (tg_vin (by decide)) dX5_opensThen_47 ?_
    refine tg_topi (y := m_now 1) rfl ?_
    obtain rfl := Option.some.inj hs
    exact JJ5
  · have hs := tg_f cc3 hs
    refine tg_iconst (v := 1) C dX5_opensThen_31 (by decide) ?_
    refine tg_aload_n C dX5_opensThen_32 rfl 0 rfl ?_
    refine tg_get (v := .ref o4) C cfX5 0 rfl 8 (by decide) wm_713 rfl dX5_opensThen_33 ?_
    refine tg_iconst (v := 1) C dX5_opensThen_36 (by decide) ?_
    refine tg_iald C 4 0 rfl rfl (tg_vin (by decide)) dX5_opensThen_37 ?_
    refine tg_topi (y := m_now 1) rfl ?_
    refine tg_isub C dX5_opensThen_38 ?_
    refine tg_goto (tgt := 48) C dX5_opensThen_39 (by decide) ?_
    obtain rfl := Option.some.inj hs
    exact JJ5
set_option maxHeartbeats 2000000 in
set_option maxRecDepth 20000 in
theorem kX5_opensThen (l : Launch) (D : tg_D) (o0 o1 o2 o3 o4 o5 o6 o7 o8 : Nat) (m_text : Nat → Int32) (m_size : Int32) (m_at : Int32) (m_begin : Int32) (m_token : Int32) (m_told : Int32) (m_read : Nat → Int32) (m_harbour : Nat → Int32) (m_now : Nat → Int32) (m_undone : Nat → Int32) (m_undos : Int32) (m_one : Int32) (m_two : Int32) (m_three : Int32) (m_chalks : Int32) (m_cb : Nat → Int32) (m_co : Nat → Int32) (m_trace : Int64) (m_kept : Nat → Int32) (r : Int32) (hs : fX5_opensThen m_harbour m_now m_one m_two m_three = some r) : Met l yX5_opensThen [Cond.code yX5_opensThen cX5_opensThen 1 (some .int)] (tg_rm 1 27) (tg_Pre D (tw_M D o0 o1 o2 o3 o4 o5 o6 o7 o8 m_text m_size m_at m_begin m_token m_told m_read m_harbour m_now m_undone m_undos m_one m_two m_three m_chalks m_cb m_co m_trace m_kept) [.ref o0]) (vp_Si (fun r' => r' = r)) 0 0 (fun _ => False) := tg_metI (by decide) (Nat.le_of_ble_eq_true rfl) (fun X hl0 C hE => vX5_opensThen l D o0 o1 o2 o3 o4 o5 o6 o7 o8 m_text m_size m_at m_begin m_token m_told m_read m_harbour m_now m_undone m_undos m_one m_two m_three m_chalks m_cb m_co m_trace m_kept X hl0 C r hs hE)
def fX5_throwsFor_L4 (m_harbour : Nat → Int32) (m_now : Nat → Int32) (n1 : Int32) : Nat → Int32 → Int32 → Int32 → Int32 → Int32 → Option (Int32 × Int32 × Int32 × Int32 × Int32)
  | 0, _, _, _, _, _ => none
  | fuel + 1, m_one, m_two, m_three, n2, n3 => tg_b1 (fX5_throwsOf m_harbour) fun rr1 => if rr1 ≤ n3 then (some (m_one, m_two, m_three, n2, n3)) else (tg_b3 (fX5_comes m_harbour n3) fun vv4 vv5 vv6 => tg_b1 (fX5_opensThen m_harbour m_now vv4 vv5 vv6) fun rr8 => tg_b1 (if (rr8 &&& n1) = 0 then (some (0 : Int32)) else (some (1 : Int32))) fun (vv11 : Int32) => tg_nm (n2 + vv11) fun vv13 => tg_nm (n3 + 1) fun vv14 => fX5_throwsFor_L4 m_harbour m_now n1 fuel vv4 vv5 vv6 vv13 vv14)
def fX5_throwsFor (m_harbour : Nat → Int32) (m_now : Nat → Int32) (m_one : Int32) (m_two : Int32) (m_three : Int32) (p1 : Int32) : Option (Int32 × Int32 × Int32 × Int32) := tg_b5 (fX5_throwsFor_L4 m_harbour m_now p1 400 m_one m_two m_three 0 0) fun vv16 vv17 vv18 vv19 vv20 => some (vv19, vv16, vv17, vv18)
set_option maxHeartbeats 2000000 in
set_option maxRecDepth 20000 in
theorem vX5_throwsFor_L4 (l : Launch) (D : tg_D) (o0 o1 o2 o3 o4 o5 o6 o7 o8 : Nat) (m_text : Nat → Int32) (m_size : Int32) (m_at : Int32) (m_begin : Int32) (m_token : Int32) (m_told : Int32) (m_read : Nat → Int32) (m_harbour : Nat → Int32) (m_now : Nat → Int32) (m_undone : Nat → Int32) (m_undos : Int32) (m_chalks : Int32) (m_cb : Nat → Int32) (m_co : Nat → Int32) (m_trace : Int64) (m_kept : Nat → Int32) (n1 : Int32) (X : tg_X) (hl0 : tg_l X = l) (C : tg_C X D 4 cX5_throwsFor RX5 2 47 0 0) (V : tg_V X) (o_m_one : Int32) (o_m_two : Int32) (o_m_three : Int32) (o_n2 : Int32) (o_n3 : Int32) : ∀ (fuel : Nat) (m_one : Int32) (m_two : Int32) (m_three : Int32) (n2 : Int32) (n3 : Int32), fX5_throwsFor_L4 m_harbour m_now n1 fuel m_one m_two m_three n2 n3 = some (o_m_one, o_m_two, o_m_three, o_n2, o_n3) → tg_G X D 4 0 0 (tw_M D o0 o1 o2 o3 o4 o5 o6 o7 o8 m_text m_size m_at m_begin m_token m_told m_read m_harbour m_now m_undone m_undos o_m_one o_m_two o_m_three m_chalks m_cb m_co m_trace m_kept) [(0, .ref o0), (1, .int n1), (2, .int o_n2), (3, .int o_n3)] 40 [] → tg_G X D 4 0 0 (tw_M D o0 o1 o2 o3 o4 o5 o6 o7 o8 m_text m_size m_at m_begin m_token m_told m_read m_harbour m_now m_undone m_undos m_one m_two m_three m_chalks m_cb m_co m_trace m_kept) [(0, .ref o0), (1, .int n1), (2, .int n2), (3, .int n3)] 4 [] := by
  intro fuel
  induction fuel with
  | zero =>
    intro m_one m_two m_three n2 n3 hs _
    rw [fX5_throwsFor_L4] at hs
    cases hs
  | succ fuel ih =>
    intro m_one m_two m_three n2 n3 hs J
    rw [fX5_throwsFor_L4] at hs
    refine tg_iload_n C dX5_throwsFor_4 rfl 3 rfl ?_
    refine tg_aload_n C dX5_throwsFor_5 rfl 0 rfl ?_
    obtain ⟨rr1, ee2, hs⟩ := tg_b1_e hs
    refine tg_pVs (As := []) (rest := [.int n3]) C hl0 (kX5_throwsOf l D o0 o1 o2 o3 o4 o5 o6 o7 o8 m_text m_size m_at m_begin m_token m_told m_read m_harbour m_now m_undone m_undos m_one m_two m_three m_chalks m_cb m_co m_trace m_kept rr1 ee2) wm_863 meX5_throwsOf (by decide) rfl rfl rfl rfl (Nat.le_of_ble_eq_true rfl) dX5_throwsFor_6 ?_
    refine tg_icmp_ge (tgt := 40) C dX5_throwsFor_9 (by decide) (fun cc3 => ?_) (fun cc3 => ?_)
    · have hs := tg_t cc3 hs
      obtain ⟨rfl, rfl, rfl, rfl, rfl⟩ := tg_i5 hs
      exact J
    · have hs := tg_f cc3 hs
      refine tg_aload_n C dX5_throwsFor_12 rfl 0 rfl ?_
      refine tg_iload_n C dX5_throwsFor_13 rfl 3 rfl ?_
      obtain ⟨vv4, vv5, vv6, ee7, hs⟩ := tg_b3_e hs
      refine tg_eVs (ws' := (tw_M D o0 o1 o2 o3 o4 o5 o6 o7 o8 m_text m_size m_at m_begin m_token m_told m_read m_harbour m_now m_undone m_undos vv4 vv5 vv6 m_chalks m_cb m_co m_trace m_kept)) (As := [.int n3]) (rest := []) C V hl0 (kX5_comes l D o0 o1 o2 o3 o4 o5 o6 o7 o8 m_text m_size m_at m_begin m_token m_told m_read m_harbour m_now m_undone m_undos m_one m_two m_three m_chalks m_cb m_co m_trace m_kept n3 vv4 vv5 vv6 ee7) wm_867 meX5_comes (by decide) rfl rfl rfl rfl (Nat.le_of_ble_eq_true rfl) rfl dX5_throwsFor_14 ?_
      refine tg_iload_n C dX5_throwsFor_17 rfl 2 rfl ?_
      refine tg_aload_n C dX5_throwsFor_18 rfl 0 rfl ?_
      obtain ⟨rr8, ee9, hs⟩ := tg_b1_e hs
      refine tg_pVs (As := []) (rest := [.int n2]) C hl0 (kX5_opensThen l D o0 o1 o2 o3 o4 o5 o6 o7 o8 m_text m_size m_at m_begin m_token m_told m_read m_harbour m_now m_undone m_undos vv4 vv5 vv6 m_chalks m_cb m_co m_trace m_kept rr8 ee9) wm_951 meX5_opensThen (by decide) rfl rfl rfl rfl (Nat.le_of_ble_eq_true rfl) dX5_throwsFor_19 ?_
      refine tg_iload_n C dX5_throwsFor_22 rfl 1 rfl ?_
      refine tg_iand C dX5_throwsFor_23 ?_
      obtain ⟨vv11, ee15, hs⟩ := tg_b1_e hs
      have JJ12 : tg_G X D 4 0 0 (tw_M D o0 o1 o2 o3 o4 o5 o6 o7 o8 m_text m_size m_at m_begin m_token m_told m_read m_harbour m_now m_undone m_undos vv4 vv5 vv6 m_chalks m_cb m_co m_trace m_kept) [(0, .ref o0), (1, .int n1), (2, .int n2), (3, .int n3)] 32 [.int vv11, .int n2] := by
        refine tg_iadd C dX5_throwsFor_32 ?_
        obtain ⟨vv13, evv13, hs⟩ := tg_nm_e hs
        refine tg_topi evv13 ?_
        refine tg_istore_n (lv' := [(2, .int vv13), (0, .ref o0), (1, .int n1), (3, .int n3)]) C dX5_throwsFor_33 rfl (by decide) rfl ?_
        obtain ⟨vv14, evv14, hs⟩ := tg_nm_e hs
        refine tg_iinc (v := vv14) (lv' := [(3, .int vv14), (2, .int vv13), (0, .ref o0), (1, .int n1)]) C dX5_throwsFor_34 3 rfl (by rw [evv14]; rfl) (by decide) rfl ?_
        refine tg_goto (tgt := 4) C dX5_throwsFor_37 (by decide) ?_
        refine tg_lsub [2, 3, 1, 0] rfl ?_
        exact ih vv4 vv5 vv6 vv13 vv14 hs J
      have hs := ee15
      clear ee15
      refine tg_if_eq (tgt := 31) C dX5_throwsFor_24 (by decide) (fun cc10 => ?_) (fun cc10 => ?_)
      · have hs := tg_t cc10 hs
        refine tg_iconst (v := 0) C dX5_throwsFor_31 (by decide) ?_
        obtain rfl := Option.some.inj hs
        exact JJ12
      · have hs := tg_f cc10 hs
        refine tg_iconst (v := 1) C dX5_throwsFor_27 (by decide) ?_
        refine tg_goto (tgt := 32) C dX5_throwsFor_28 (by decide) ?_
        obtain rfl := Option.some.inj hs
        exact JJ12
set_option maxHeartbeats 2000000 in
set_option maxRecDepth 20000 in
theorem vX5_throwsFor (l : Launch) (D : tg_D) (o0 o1 o2 o3 o4 o5 o6 o7 o8 : Nat) (m_text : Nat → Int32) (m_size : Int32) (m_at : Int32) (m_begin : Int32) (m_token : Int32) (m_told : Int32) (m_read : Nat → Int32) (m_harbour : Nat → Int32) (m_now : Nat → Int32) (m_undone : Nat → Int32) (m_undos : Int32) (m_one : Int32) (m_two : Int32) (m_three : Int32) (m_chalks : Int32) (m_cb : Nat → Int32) (m_co : Nat → Int32) (m_trace : Int64) (m_kept : Nat → Int32) (p1 : Int32) (X : tg_X) (hl0 : tg_l X = l) (C : tg_C X D 4 cX5_throwsFor RX5 2 47 0 0) (V : tg_V X) (r : Int32) (q_m_one : Int32) (q_m_two : Int32) (q_m_three : Int32) (hs : fX5_throwsFor m_harbour m_now m_one m_two m_three p1 = some (r, q_m_one, q_m_two, q_m_three)) (hE : tg_Ei X D 0 0 cX5_throwsFor .int r (tw_M D o0 o1 o2 o3 o4 o5 o6 o7 o8 m_text m_size m_at m_begin m_token m_told m_read m_harbour m_now m_undone m_undos q_m_one q_m_two q_m_three m_chalks m_cb m_co m_trace m_kept)) : tg_G X D 4 0 0 (tw_M D o0 o1 o2 o3 o4 o5 o6 o7 o8 m_text m_size m_at m_begin m_token m_told m_read m_harbour m_now m_undone m_undos m_one m_two m_three m_chalks m_cb m_co m_trace m_kept) [(0, .ref o0), (1, .int p1)] 0 [] := by
  unfold fX5_throwsFor at hs
  refine tg_iconst (v := 0) C dX5_throwsFor_0 (by decide) ?_
  refine tg_istore_n (lv' := [(2, .int 0), (0, .ref o0), (1, .int p1)]) C dX5_throwsFor_1 rfl (by decide) rfl ?_
  refine tg_iconst (v := 0) C dX5_throwsFor_2 (by decide) ?_
  refine tg_istore_n (lv' := [(3, .int 0), (2, .int 0), (0, .ref o0), (1, .int p1)]) C dX5_throwsFor_3 rfl (by decide) rfl ?_
  refine tg_lsub [2, 3, 1, 0] rfl ?_
  obtain ⟨vv16, vv17, vv18, vv19, vv20, ee21, hs⟩ := tg_b5_e hs
  refine vX5_throwsFor_L4 l D o0 o1 o2 o3 o4 o5 o6 o7 o8 m_text m_size m_at m_begin m_token m_told m_read m_harbour m_now m_undone m_undos m_chalks m_cb m_co m_trace m_kept p1 X hl0 C V vv16 vv17 vv18 vv19 vv20 400 m_one m_two m_three 0 0 ee21 ?_
  refine tg_iload_n C dX5_throwsFor_40 rfl 2 rfl ?_
  obtain ⟨rfl, rfl, rfl, rfl⟩ := tg_i4 hs
  exact tg_iret hE rfl dX5_throwsFor_41
set_option maxHeartbeats 2000000 in
set_option maxRecDepth 20000 in
theorem kX5_throwsFor (l : Launch) (D : tg_D) (o0 o1 o2 o3 o4 o5 o6 o7 o8 : Nat) (m_text : Nat → Int32) (m_size : Int32) (m_at : Int32) (m_begin : Int32) (m_token : Int32) (m_told : Int32) (m_read : Nat → Int32) (m_harbour : Nat → Int32) (m_now : Nat → Int32) (m_undone : Nat → Int32) (m_undos : Int32) (m_one : Int32) (m_two : Int32) (m_three : Int32) (m_chalks : Int32) (m_cb : Nat → Int32) (m_co : Nat → Int32) (m_trace : Int64) (m_kept : Nat → Int32) (p1 : Int32) (r : Int32) (q_m_one : Int32) (q_m_two : Int32) (q_m_three : Int32) (hs : fX5_throwsFor m_harbour m_now m_one m_two m_three p1 = some (r, q_m_one, q_m_two, q_m_three)) : Met l yX5_throwsFor [Cond.code yX5_throwsFor cX5_throwsFor 4 (some .int)] (tg_rm 2 47) (tg_Pre D (tw_M D o0 o1 o2 o3 o4 o5 o6 o7 o8 m_text m_size m_at m_begin m_token m_told m_read m_harbour m_now m_undone m_undos m_one m_two m_three m_chalks m_cb m_co m_trace m_kept) [.ref o0, .int p1]) (tg_Qe (some (.int r)) D (tw_M D o0 o1 o2 o3 o4 o5 o6 o7 o8 m_text m_size m_at m_begin m_token m_told m_read m_harbour m_now m_undone m_undos q_m_one q_m_two q_m_three m_chalks m_cb m_co m_trace m_kept) (tg_Ad (tw_M D o0 o1 o2 o3 o4 o5 o6 o7 o8 m_text m_size m_at m_begin m_token m_told m_read m_harbour m_now m_undone m_undos m_one m_two m_three m_chalks m_cb m_co m_trace m_kept))) 0 0 (tg_Ad (tw_M D o0 o1 o2 o3 o4 o5 o6 o7 o8 m_text m_size m_at m_begin m_token m_told m_read m_harbour m_now m_undone m_undos m_one m_two m_three m_chalks m_cb m_co m_trace m_kept)) := tg_metEi (by decide) (Nat.le_of_ble_eq_true rfl) (fun X hl0 C V hE => vX5_throwsFor l D o0 o1 o2 o3 o4 o5 o6 o7 o8 m_text m_size m_at m_begin m_token m_told m_read m_harbour m_now m_undone m_undos m_one m_two m_three m_chalks m_cb m_co m_trace m_kept p1 X hl0 C V r q_m_one q_m_two q_m_three hs hE)
def fX5_least_L5 : Nat → Int32 → Int32 → Option (Int32 × Int32)
  | 0, _, _ => none
  | fuel + 1, n3, n4 => if n4 = 0 then (some (n3, n4)) else (tg_dz n4 <| tg_nm (n3 - n3 / n4 * n4) fun vv3 => fX5_least_L5 fuel n4 vv3)
def fX5_least (p0 : Int32) (p1 : Int32) (p2 : Int32) : Option (Int32) := tg_b2 (fX5_least_L5 400 p0 p1) fun vv4 vv5 => if ¬ p2 = 0 then (tg_dz vv4 <| some (p1 / vv4)) else (tg_dz vv4 <| some (p0 / vv4))
set_option maxHeartbeats 2000000 in
set_option maxRecDepth 20000 in
theorem vX5_least_L5 (l : Launch) (D : tg_D) (n0 : Int32) (n1 : Int32) (n2 : Int32) (X : tg_X) (hl0 : tg_l X = l) (C : tg_C X D 6 cX5_least RX5 0 0 0 0) (o_n3 : Int32) (o_n4 : Int32) : ∀ (fuel : Nat) (n3 : Int32) (n4 : Int32), fX5_least_L5 fuel n3 n4 = some (o_n3, o_n4) → tg_G X D 6 0 0 [] [(0, .int n0), (1, .int n1), (2, .int n2), (3, .int o_n3), (4, .int o_n4)] 26 [] → tg_G X D 6 0 0 [] [(0, .int n0), (1, .int n1), (2, .int n2), (3, .int n3), (4, .int n4)] 5 [] := by
  intro fuel
  induction fuel with
  | zero =>
    intro n3 n4 hs _
    rw [fX5_least_L5] at hs
    cases hs
  | succ fuel ih =>
    intro n3 n4 hs J
    rw [fX5_least_L5] at hs
    refine tg_iload C dX5_least_5 4 rfl ?_
    refine tg_if_eq (tgt := 26) C dX5_least_7 (by decide) (fun cc1 => ?_) (fun cc1 => ?_)
    · have hs := tg_t cc1 hs
      obtain ⟨rfl, rfl⟩ := tg_i2 hs
      exact J
    · have hs := tg_f cc1 hs
      refine tg_iload_n C dX5_least_10 rfl 3 rfl ?_
      refine tg_iload C dX5_least_11 4 rfl ?_
      obtain ⟨hh2, hs⟩ := tg_dz_e hs
      refine tg_irem C hh2 dX5_least_13 ?_
      obtain ⟨vv3, evv3, hs⟩ := tg_nm_e hs
      refine tg_topi evv3 ?_
      refine tg_istore (lv' := [(5, .int vv3), (0, .int n0), (1, .int n1), (2, .int n2), (3, .int n3), (4, .int n4)]) C dX5_least_14 (by decide) rfl ?_
      refine tg_iload C dX5_least_16 5 rfl ?_
      refine tg_istore_n (lv' := [(3, .int n4), (5, .int vv3), (0, .int n0), (1, .int n1), (2, .int n2), (4, .int n4)]) C dX5_least_18 rfl (by decide) rfl ?_
      refine tg_iload C dX5_least_19 1 rfl ?_
      refine tg_istore (lv' := [(4, .int vv3), (3, .int n4), (5, .int vv3), (0, .int n0), (1, .int n1), (2, .int n2)]) C dX5_least_21 (by decide) rfl ?_
      refine tg_goto (tgt := 5) C dX5_least_23 (by decide) ?_
      refine tg_lsub [3, 4, 5, 1, 0] rfl ?_
      exact ih n4 vv3 hs J
set_option maxHeartbeats 2000000 in
set_option maxRecDepth 20000 in
theorem vX5_least (l : Launch) (D : tg_D) (p0 : Int32) (p1 : Int32) (p2 : Int32) (X : tg_X) (hl0 : tg_l X = l) (C : tg_C X D 6 cX5_least RX5 0 0 0 0) (r : Int32) (hs : fX5_least p0 p1 p2 = some r) (hE : tg_Ei X D 0 0 cX5_least .int r []) : tg_G X D 6 0 0 [] [(0, .int p0), (1, .int p1), (2, .int p2)] 0 [] := by
  unfold fX5_least at hs
  refine tg_iload_n C dX5_least_0 rfl 0 rfl ?_
  refine tg_istore_n (lv' := [(3, .int p0), (0, .int p0), (1, .int p1), (2, .int p2)]) C dX5_least_1 rfl (by decide) rfl ?_
  refine tg_iload_n C dX5_least_2 rfl 2 rfl ?_
  refine tg_istore (lv' := [(4, .int p1), (3, .int p0), (0, .int p0), (1, .int p1), (2, .int p2)]) C dX5_least_3 (by decide) rfl ?_
  refine tg_lsub [2, 3, 4, 1, 0] rfl ?_
  obtain ⟨vv4, vv5, ee6, hs⟩ := tg_b2_e hs
  refine vX5_least_L5 l D p0 p1 p2 X hl0 C vv4 vv5 400 p0 p1 ee6 ?_
  refine tg_iload_n C dX5_least_26 rfl 2 rfl ?_
  refine tg_if_ne (tgt := 36) C dX5_least_27 (by decide) (fun cc7 => ?_) (fun cc7 => ?_)
  · have hs := tg_t cc7 hs
    refine tg_iload_n C dX5_least_36 rfl 1 rfl ?_
    refine tg_iload_n C dX5_least_37 rfl 3 rfl ?_
    obtain ⟨hh8, hs⟩ := tg_dz_e hs
    refine tg_idiv C hh8 dX5_least_38 ?_
    obtain rfl := Option.some.inj hs
    exact tg_iret hE rfl dX5_least_39
  · have hs := tg_nf cc7 hs
    refine tg_iload_n C dX5_least_30 rfl 0 rfl ?_
    refine tg_iload_n C dX5_least_31 rfl 3 rfl ?_
    obtain ⟨hh9, hs⟩ := tg_dz_e hs
    refine tg_idiv C hh9 dX5_least_32 ?_
    refine tg_goto (tgt := 39) C dX5_least_33 (by decide) ?_
    obtain rfl := Option.some.inj hs
    exact tg_iret hE rfl dX5_least_39
set_option maxHeartbeats 2000000 in
set_option maxRecDepth 20000 in
theorem kX5_least (l : Launch) (D : tg_D) (p0 : Int32) (p1 : Int32) (p2 : Int32) (r : Int32) (hs : fX5_least p0 p1 p2 = some r) : Met l yX5_least [Cond.code yX5_least cX5_least 6 (some .int)] (tg_rm 0 0) (tg_Pre D [] [.int p0, .int p1, .int p2]) (vp_Si (fun r' => r' = r)) 0 0 (fun _ => False) := tg_metI (by decide) (Nat.le_of_ble_eq_true rfl) (fun X hl0 C hE => vX5_least l D p0 p1 p2 X hl0 C r hs hE)
def fX5_chances (m_harbour : Nat → Int32) (m_now : Nat → Int32) (m_one : Int32) (m_two : Int32) (m_three : Int32) (p1 : Int32) : Option (Int32 × Int32 × Int32 × Int32) := tg_b1 (fX5_free m_harbour m_now) fun rr1 => tg_b4 (fX5_throwsFor m_harbour m_now m_one m_two m_three ((1 <<< (p1 &&& 31)) &&& rr1)) fun rr3 vv4 vv5 vv6 => some (rr3, vv4, vv5, vv6)
set_option maxHeartbeats 2000000 in
set_option maxRecDepth 20000 in
theorem vX5_chances (l : Launch) (D : tg_D) (o0 o1 o2 o3 o4 o5 o6 o7 o8 : Nat) (m_text : Nat → Int32) (m_size : Int32) (m_at : Int32) (m_begin : Int32) (m_token : Int32) (m_told : Int32) (m_read : Nat → Int32) (m_harbour : Nat → Int32) (m_now : Nat → Int32) (m_undone : Nat → Int32) (m_undos : Int32) (m_one : Int32) (m_two : Int32) (m_three : Int32) (m_chalks : Int32) (m_cb : Nat → Int32) (m_co : Nat → Int32) (m_trace : Int64) (m_kept : Nat → Int32) (p1 : Int32) (X : tg_X) (hl0 : tg_l X = l) (C : tg_C X D 2 cX5_chances RX5 3 70 0 0) (V : tg_V X) (r : Int32) (q_m_one : Int32) (q_m_two : Int32) (q_m_three : Int32) (hs : fX5_chances m_harbour m_now m_one m_two m_three p1 = some (r, q_m_one, q_m_two, q_m_three)) (hE : tg_Ei X D 0 0 cX5_chances .int r (tw_M D o0 o1 o2 o3 o4 o5 o6 o7 o8 m_text m_size m_at m_begin m_token m_told m_read m_harbour m_now m_undone m_undos q_m_one q_m_two q_m_three m_chalks m_cb m_co m_trace m_kept)) : tg_G X D 2 0 0 (tw_M D o0 o1 o2 o3 o4 o5 o6 o7 o8 m_text m_size m_at m_begin m_token m_told m_read m_harbour m_now m_undone m_undos m_one m_two m_three m_chalks m_cb m_co m_trace m_kept) [(0, .ref o0), (1, .int p1)] 0 [] := by
  unfold fX5_chances at hs
  refine tg_aload_n C dX5_chances_0 rfl 0 rfl ?_
  refine tg_iconst (v := 1) C dX5_chances_1 (by decide) ?_
  refine tg_iload_n C dX5_chances_2 rfl 1 rfl ?_
  refine tg_ishl C dX5_chances_3 ?_
  refine tg_aload_n C dX5_chances_4 rfl 0 rfl ?_
  obtain ⟨rr1, ee2, hs⟩ := tg_b1_e hs
  refine tg_pVs (As := []) (rest := [.int (1 <<< (p1 &&& 31)), .ref o0]) C hl0 (kX5_free l D o0 o1 o2 o3 o4 o5 o6 o7 o8 m_text m_size m_at m_begin m_token m_told m_read m_harbour m_now m_undone m_undos m_one m_two m_three m_chalks m_cb m_co m_trace m_kept rr1 ee2) wm_875 meX5_free (by decide) rfl rfl rfl rfl (Nat.le_of_ble_eq_true rfl) dX5_chances_5 ?_
  refine tg_iand C dX5_chances_8 ?_
  obtain ⟨rr3, vv4, vv5, vv6, ee7, hs⟩ := tg_b4_e hs
  refine tg_eVs (ws' := (tw_M D o0 o1 o2 o3 o4 o5 o6 o7 o8 m_text m_size m_at m_begin m_token m_told m_read m_harbour m_now m_undone m_undos vv4 vv5 vv6 m_chalks m_cb m_co m_trace m_kept)) (As := [.int ((1 <<< (p1 &&& 31)) &&& rr1)]) (rest := []) C V hl0 (kX5_throwsFor l D o0 o1 o2 o3 o4 o5 o6 o7 o8 m_text m_size m_at m_begin m_token m_told m_read m_harbour m_now m_undone m_undos m_one m_two m_three m_chalks m_cb m_co m_trace m_kept ((1 <<< (p1 &&& 31)) &&& rr1) rr3 vv4 vv5 vv6 ee7) wm_947 meX5_throwsFor (by decide) rfl rfl rfl rfl (Nat.le_of_ble_eq_true rfl) rfl dX5_chances_9 ?_
  obtain ⟨rfl, rfl, rfl, rfl⟩ := tg_i4 hs
  exact tg_iret hE rfl dX5_chances_12
set_option maxHeartbeats 2000000 in
set_option maxRecDepth 20000 in
theorem kX5_chances (l : Launch) (D : tg_D) (o0 o1 o2 o3 o4 o5 o6 o7 o8 : Nat) (m_text : Nat → Int32) (m_size : Int32) (m_at : Int32) (m_begin : Int32) (m_token : Int32) (m_told : Int32) (m_read : Nat → Int32) (m_harbour : Nat → Int32) (m_now : Nat → Int32) (m_undone : Nat → Int32) (m_undos : Int32) (m_one : Int32) (m_two : Int32) (m_three : Int32) (m_chalks : Int32) (m_cb : Nat → Int32) (m_co : Nat → Int32) (m_trace : Int64) (m_kept : Nat → Int32) (p1 : Int32) (r : Int32) (q_m_one : Int32) (q_m_two : Int32) (q_m_three : Int32) (hs : fX5_chances m_harbour m_now m_one m_two m_three p1 = some (r, q_m_one, q_m_two, q_m_three)) : Met l yX5_chances [Cond.code yX5_chances cX5_chances 2 (some .int)] (tg_rm 3 70) (tg_Pre D (tw_M D o0 o1 o2 o3 o4 o5 o6 o7 o8 m_text m_size m_at m_begin m_token m_told m_read m_harbour m_now m_undone m_undos m_one m_two m_three m_chalks m_cb m_co m_trace m_kept) [.ref o0, .int p1]) (tg_Qe (some (.int r)) D (tw_M D o0 o1 o2 o3 o4 o5 o6 o7 o8 m_text m_size m_at m_begin m_token m_told m_read m_harbour m_now m_undone m_undos q_m_one q_m_two q_m_three m_chalks m_cb m_co m_trace m_kept) (tg_Ad (tw_M D o0 o1 o2 o3 o4 o5 o6 o7 o8 m_text m_size m_at m_begin m_token m_told m_read m_harbour m_now m_undone m_undos m_one m_two m_three m_chalks m_cb m_co m_trace m_kept))) 0 0 (tg_Ad (tw_M D o0 o1 o2 o3 o4 o5 o6 o7 o8 m_text m_size m_at m_begin m_token m_told m_read m_harbour m_now m_undone m_undos m_one m_two m_three m_chalks m_cb m_co m_trace m_kept)) := tg_metEi (by decide) (Nat.le_of_ble_eq_true rfl) (fun X hl0 C V hE => vX5_chances l D o0 o1 o2 o3 o4 o5 o6 o7 o8 m_text m_size m_at m_begin m_token m_told m_read m_harbour m_now m_undone m_undos m_one m_two m_three m_chalks m_cb m_co m_trace m_kept p1 X hl0 C V r q_m_one q_m_two q_m_three hs hE)
def fX5_chance (m_harbour : Nat → Int32) (m_now : Nat → Int32) (m_one : Int32) (m_two : Int32) (m_three : Int32) (p1 : Int32) (p2 : Int32) : Option (Int32 × Int32 × Int32 × Int32) := tg_b1 (fX5_isBerth m_harbour p1) fun rr1 => if rr1 = 0 then (some ((-1), m_one, m_two, m_three)) else (tg_b1 (fX5_in (Int32.toInt64 p2) 0 1) fun rr4 => if rr4 = 0 then (some ((-1), m_one, m_two, m_three)) else (tg_b4 (fX5_chances m_harbour m_now m_one m_two m_three p1) fun rr7 vv8 vv9 vv10 => tg_b1 (fX5_throwsOf m_harbour) fun rr12 => tg_b1 (fX5_least rr7 rr12 p2) fun rr14 => some (rr14, vv8, vv9, vv10)))
set_option maxHeartbeats 2000000 in
set_option maxRecDepth 20000 in
theorem vX5_chance (l : Launch) (D : tg_D) (o0 o1 o2 o3 o4 o5 o6 o7 o8 : Nat) (m_text : Nat → Int32) (m_size : Int32) (m_at : Int32) (m_begin : Int32) (m_token : Int32) (m_told : Int32) (m_read : Nat → Int32) (m_harbour : Nat → Int32) (m_now : Nat → Int32) (m_undone : Nat → Int32) (m_undos : Int32) (m_one : Int32) (m_two : Int32) (m_three : Int32) (m_chalks : Int32) (m_cb : Nat → Int32) (m_co : Nat → Int32) (m_trace : Int64) (m_kept : Nat → Int32) (p1 : Int32) (p2 : Int32) (X : tg_X) (hl0 : tg_l X = l) (C : tg_C X D 3 cX5_chance RX5 4 91 0 0) (V : tg_V X) (r : Int32) (q_m_one : Int32) (q_m_two : Int32) (q_m_three : Int32) (hs : fX5_chance m_harbour m_now m_one m_two m_three p1 p2 = some (r, q_m_one, q_m_two, q_m_three)) (hE : tg_Ei X D 0 0 cX5_chance .int r (tw_M D o0 o1 o2 o3 o4 o5 o6 o7 o8 m_text m_size m_at m_begin m_token m_told m_read m_harbour m_now m_undone m_undos q_m_one q_m_two q_m_three m_chalks m_cb m_co m_trace m_kept)) : tg_G X D 3 0 0 (tw_M D o0 o1 o2 o3 o4 o5 o6 o7 o8 m_text m_size m_at m_begin m_token m_told m_read m_harbour m_now m_undone m_undos m_one m_two m_three m_chalks m_cb m_co m_trace m_kept) [(0, .ref o0), (1, .int p1), (2, .int p2)] 0 [] := by
  unfold fX5_chance at hs
  refine tg_aload_n C dX5_chance_0 rfl 0 rfl ?_
  refine tg_iload_n C dX5_chance_1 rfl 1 rfl ?_
  obtain ⟨rr1, ee2, hs⟩ := tg_b1_e hs
  refine tg_pVs (As := [.int p1]) (rest := []) C hl0 (kX5_isBerth l D o0 o1 o2 o3 o4 o5 o6 o7 o8 m_text m_size m_at m_begin m_token m_told m_read m_harbour m_now m_undone m_undos m_one m_two m_three m_chalks m_cb m_co m_trace m_kept p1 rr1 ee2) wm_839 meX5_isBerth (by decide) rfl rfl rfl rfl (Nat.le_of_ble_eq_true rfl) dX5_chance_2 ?_
  refine tg_if_eq (tgt := 34) C dX5_chance_5 (by decide) (fun cc3 => ?_) (fun cc3 => ?_)
  · have hs := tg_t cc3 hs
    refine tg_iconst (v := (-1)) C dX5_chance_34 (by decide) ?_
    obtain ⟨rfl, rfl, rfl, rfl⟩ := tg_i4 hs
    exact tg_iret hE rfl dX5_chance_35
  · have hs := tg_f cc3 hs
    refine tg_iload_n C dX5_chance_8 rfl 2 rfl ?_
    refine tg_i2l C dX5_chance_9 ?_
    refine tg_lconst (v := 0) C dX5_chance_10 (by decide) ?_
    refine tg_lconst (v := 1) C dX5_chance_11 (by decide) ?_
    obtain ⟨rr4, ee5, hs⟩ := tg_b1_e hs
    refine tg_pS (As := [.long (Int32.toInt64 p2), .long 0, .long 1]) (rest := []) C hl0 (kX5_in l D (Int32.toInt64 p2) 0 1 rr4 ee5) wm_768 meX5_in (by decide) rfl rfl (Nat.le_of_ble_eq_true rfl) dX5_chance_12 ?_
    refine tg_if_eq (tgt := 34) C dX5_chance_15 (by decide) (fun cc6 => ?_) (fun cc6 => ?_)
    · have hs := tg_t cc6 hs
      refine tg_iconst (v := (-1)) C dX5_chance_34 (by decide) ?_
      obtain ⟨rfl, rfl, rfl, rfl⟩ := tg_i4 hs
      exact tg_iret hE rfl dX5_chance_35
    · have hs := tg_f cc6 hs
      refine tg_aload_n C dX5_chance_18 rfl 0 rfl ?_
      refine tg_iload_n C dX5_chance_19 rfl 1 rfl ?_
      obtain ⟨rr7, vv8, vv9, vv10, ee11, hs⟩ := tg_b4_e hs
      refine tg_eVs (ws' := (tw_M D o0 o1 o2 o3 o4 o5 o6 o7 o8 m_text m_size m_at m_begin m_token m_told m_read m_harbour m_now m_undone m_undos vv8 vv9 vv10 m_chalks m_cb m_co m_trace m_kept)) (As := [.int p1]) (rest := []) C V hl0 (kX5_chances l D o0 o1 o2 o3 o4 o5 o6 o7 o8 m_text m_size m_at m_begin m_token m_told m_read m_harbour m_now m_undone m_undos m_one m_two m_three m_chalks m_cb m_co m_trace m_kept p1 rr7 vv8 vv9 vv10 ee11) wm_943 meX5_chances (by decide) rfl rfl rfl rfl (Nat.le_of_ble_eq_true rfl) rfl dX5_chance_20 ?_
      refine tg_aload_n C dX5_chance_23 rfl 0 rfl ?_
      obtain ⟨rr12, ee13, hs⟩ := tg_b1_e hs
      refine tg_pVs (As := []) (rest := [.int rr7]) C hl0 (kX5_throwsOf l D o0 o1 o2 o3 o4 o5 o6 o7 o8 m_text m_size m_at m_begin m_token m_told m_read m_harbour m_now m_undone m_undos vv8 vv9 vv10 m_chalks m_cb m_co m_trace m_kept rr12 ee13) wm_863 meX5_throwsOf (by decide) rfl rfl rfl rfl (Nat.le_of_ble_eq_true rfl) dX5_chance_24 ?_
      refine tg_iload_n C dX5_chance_27 rfl 2 rfl ?_
      obtain ⟨rr14, ee15, hs⟩ := tg_b1_e hs
      refine tg_pS (As := [.int rr7, .int rr12, .int p2]) (rest := []) C hl0 (kX5_least l D rr7 rr12 p2 rr14 ee15) wm_955 meX5_least (by decide) rfl rfl (Nat.le_of_ble_eq_true rfl) dX5_chance_28 ?_
      refine tg_goto (tgt := 35) C dX5_chance_31 (by decide) ?_
      obtain ⟨rfl, rfl, rfl, rfl⟩ := tg_i4 hs
      exact tg_iret hE rfl dX5_chance_35
set_option maxHeartbeats 2000000 in
set_option maxRecDepth 20000 in
theorem kX5_chance (l : Launch) (D : tg_D) (o0 o1 o2 o3 o4 o5 o6 o7 o8 : Nat) (m_text : Nat → Int32) (m_size : Int32) (m_at : Int32) (m_begin : Int32) (m_token : Int32) (m_told : Int32) (m_read : Nat → Int32) (m_harbour : Nat → Int32) (m_now : Nat → Int32) (m_undone : Nat → Int32) (m_undos : Int32) (m_one : Int32) (m_two : Int32) (m_three : Int32) (m_chalks : Int32) (m_cb : Nat → Int32) (m_co : Nat → Int32) (m_trace : Int64) (m_kept : Nat → Int32) (p1 : Int32) (p2 : Int32) (r : Int32) (q_m_one : Int32) (q_m_two : Int32) (q_m_three : Int32) (hs : fX5_chance m_harbour m_now m_one m_two m_three p1 p2 = some (r, q_m_one, q_m_two, q_m_three)) : Met l yX5_chance [Cond.code yX5_chance cX5_chance 3 (some .int)] (tg_rm 4 91) (tg_Pre D (tw_M D o0 o1 o2 o3 o4 o5 o6 o7 o8 m_text m_size m_at m_begin m_token m_told m_read m_harbour m_now m_undone m_undos m_one m_two m_three m_chalks m_cb m_co m_trace m_kept) [.ref o0, .int p1, .int p2]) (tg_Qe (some (.int r)) D (tw_M D o0 o1 o2 o3 o4 o5 o6 o7 o8 m_text m_size m_at m_begin m_token m_told m_read m_harbour m_now m_undone m_undos q_m_one q_m_two q_m_three m_chalks m_cb m_co m_trace m_kept) (tg_Ad (tw_M D o0 o1 o2 o3 o4 o5 o6 o7 o8 m_text m_size m_at m_begin m_token m_told m_read m_harbour m_now m_undone m_undos m_one m_two m_three m_chalks m_cb m_co m_trace m_kept))) 0 0 (tg_Ad (tw_M D o0 o1 o2 o3 o4 o5 o6 o7 o8 m_text m_size m_at m_begin m_token m_told m_read m_harbour m_now m_undone m_undos m_one m_two m_three m_chalks m_cb m_co m_trace m_kept)) := tg_metEi (by decide) (Nat.le_of_ble_eq_true rfl) (fun X hl0 C V hE => vX5_chance l D o0 o1 o2 o3 o4 o5 o6 o7 o8 m_text m_size m_at m_begin m_token m_told m_read m_harbour m_now m_undone m_undos m_one m_two m_three m_chalks m_cb m_co m_trace m_kept p1 p2 X hl0 C V r q_m_one q_m_two q_m_three hs hE)
def fX5_odds_L63 (m_harbour : Nat → Int32) (m_now : Nat → Int32) : Nat → Int32 → Int32 → Int32 → Int32 → Int32 → Option (Int32 × Int32 × Int32 × Int32 × Int32)
  | 0, _, _, _, _, _ => none
  | fuel + 1, m_one, m_two, m_three, n4, n5 => if (m_harbour 0) < n5 then (some (m_one, m_two, m_three, n4, n5)) else (tg_b4 (fX5_chances m_harbour m_now m_one m_two m_three n5) fun rr16 vv17 vv18 vv19 => tg_nm (n4 + rr16) fun vv21 => tg_nm (n5 + 1) fun vv22 => fX5_odds_L63 m_harbour m_now fuel vv17 vv18 vv19 vv21 vv22)
def fX5_odds (m_harbour : Nat → Int32) (m_now : Nat → Int32) (m_one : Int32) (m_two : Int32) (m_three : Int32) (p1 : Int32) (p2 : Int32) : Option (Int32 × Int32 × Int32 × Int32) := tg_b1 (fX5_in (Int32.toInt64 p1) 0 2) fun rr1 => if rr1 = 0 then (some ((-1), m_one, m_two, m_three)) else (tg_b1 (fX5_in (Int32.toInt64 p2) 0 1) fun rr4 => if ¬ rr4 = 0 then (tg_b1 (fX5_free m_harbour m_now) fun rr7 => tg_b4 (fX5_throwsFor m_harbour m_now m_one m_two m_three rr7) fun rr9 vv10 vv11 vv12 => if ¬ p1 = 1 then (tg_b5 (fX5_odds_L63 m_harbour m_now 400 vv10 vv11 vv12 0 1) fun vv23 vv24 vv25 vv26 vv27 => tg_b1 (if ¬ p1 = 0 then (some vv26) else (tg_b1 (fX5_throwsOf m_harbour) fun rr32 => some (rr32 - rr9))) fun (vv30 : Int32) => tg_b1 (fX5_throwsOf m_harbour) fun rr34 => tg_b1 (fX5_least vv30 rr34 p2) fun rr36 => some (rr36, vv23, vv24, vv25)) else (if ¬ rr9 = 0 then (tg_b1 (fX5_throwsOf m_harbour) fun rr40 => tg_b1 (fX5_least rr40 rr9 p2) fun rr42 => some (rr42, vv10, vv11, vv12)) else (some ((-9), vv10, vv11, vv12)))) else (some ((-1), m_one, m_two, m_three)))
set_option maxHeartbeats 2000000 in
set_option maxRecDepth 20000 in
theorem vX5_odds_L63 (l : Launch) (D : tg_D) (o0 o1 o2 o3 o4 o5 o6 o7 o8 : Nat) (m_text : Nat → Int32) (m_size : Int32) (m_at : Int32) (m_begin : Int32) (m_token : Int32) (m_told : Int32) (m_read : Nat → Int32) (m_harbour : Nat → Int32) (m_now : Nat → Int32) (m_undone : Nat → Int32) (m_undos : Int32) (m_chalks : Int32) (m_cb : Nat → Int32) (m_co : Nat → Int32) (m_trace : Int64) (m_kept : Nat → Int32) (n1 : Int32) (n2 : Int32) (n3 : Int32) (X : tg_X) (hl0 : tg_l X = l) (C : tg_C X D 6 cX5_odds RX5 4 91 0 0) (V : tg_V X) (o_m_one : Int32) (o_m_two : Int32) (o_m_three : Int32) (o_n4 : Int32) (o_n5 : Int32) : ∀ (fuel : Nat) (m_one : Int32) (m_two : Int32) (m_three : Int32) (n4 : Int32) (n5 : Int32), fX5_odds_L63 m_harbour m_now fuel m_one m_two m_three n4 n5 = some (o_m_one, o_m_two, o_m_three, o_n4, o_n5) → tg_G X D 6 0 0 (tw_M D o0 o1 o2 o3 o4 o5 o6 o7 o8 m_text m_size m_at m_begin m_token m_told m_read m_harbour m_now m_undone m_undos o_m_one o_m_two o_m_three m_chalks m_cb m_co m_trace m_kept) [(0, .ref o0), (1, .int n1), (2, .int n2), (3, .int n3), (4, .int o_n4), (5, .int o_n5)] 91 [] → tg_G X D 6 0 0 (tw_M D o0 o1 o2 o3 o4 o5 o6 o7 o8 m_text m_size m_at m_begin m_token m_told m_read m_harbour m_now m_undone m_undos m_one m_two m_three m_chalks m_cb m_co m_trace m_kept) [(0, .ref o0), (1, .int n1), (2, .int n2), (3, .int n3), (4, .int n4), (5, .int n5)] 63 [] := by
  intro fuel
  induction fuel with
  | zero =>
    intro m_one m_two m_three n4 n5 hs _
    rw [fX5_odds_L63] at hs
    cases hs
  | succ fuel ih =>
    intro m_one m_two m_three n4 n5 hs J
    rw [fX5_odds_L63] at hs
    refine tg_iload C dX5_odds_63 5 rfl ?_
    refine tg_aload_n C dX5_odds_65 rfl 0 rfl ?_
    refine tg_get (v := .ref o3) C cfX5 0 rfl 7 (by decide) wm_712 rfl dX5_odds_66 ?_
    refine tg_iconst (v := 0) C dX5_odds_69 (by decide) ?_
    refine tg_iald C 3 0 rfl rfl (tg_vin (by decide)) dX5_odds_70 ?_
    refine tg_topi (y := m_harbour 0) rfl ?_
    refine tg_icmp_gt (tgt := 91) C dX5_odds_71 (by decide) (fun cc15 => ?_) (fun cc15 => ?_)
    · have hs := tg_t cc15 hs
      obtain ⟨rfl, rfl, rfl, rfl, rfl⟩ := tg_i5 hs
      exact J
    · have hs := tg_f cc15 hs
      refine tg_iload C dX5_odds_74 4 rfl ?_
      refine tg_aload_n C dX5_odds_76 rfl 0 rfl ?_
      refine tg_iload C dX5_odds_77 5 rfl ?_
      obtain ⟨rr16, vv17, vv18, vv19, ee20, hs⟩ := tg_b4_e hs
      refine tg_eVs (ws' := (tw_M D o0 o1 o2 o3 o4 o5 o6 o7 o8 m_text m_size m_at m_begin m_token m_told m_read m_harbour m_now m_undone m_undos vv17 vv18 vv19 m_chalks m_cb m_co m_trace m_kept)) (As := [.int n5]) (rest := [.int n4]) C V hl0 (kX5_chances l D o0 o1 o2 o3 o4 o5 o6 o7 o8 m_text m_size m_at m_begin m_token m_told m_read m_harbour m_now m_undone m_undos m_one m_two m_three m_chalks m_cb m_co m_trace m_kept n5 rr16 vv17 vv18 vv19 ee20) wm_943 meX5_chances (by decide) rfl rfl rfl rfl (Nat.le_of_ble_eq_true rfl) rfl dX5_odds_79 ?_
      refine tg_iadd C dX5_odds_82 ?_
      obtain ⟨vv21, evv21, hs⟩ := tg_nm_e hs
      refine tg_topi evv21 ?_
      refine tg_istore (lv' := [(4, .int vv21), (0, .ref o0), (1, .int n1), (2, .int n2), (3, .int n3), (5, .int n5)]) C dX5_odds_83 (by decide) rfl ?_
      obtain ⟨vv22, evv22, hs⟩ := tg_nm_e hs
      refine tg_iinc (v := vv22) (lv' := [(5, .int vv22), (4, .int vv21), (0, .ref o0), (1, .int n1), (2, .int n2), (3, .int n3)]) C dX5_odds_85 5 rfl (by rw [evv22]; rfl) (by decide) rfl ?_
      refine tg_goto (tgt := 63) C dX5_odds_88 (by decide) ?_
      refine tg_lsub [2, 3, 4, 5, 1, 0] rfl ?_
      exact ih vv17 vv18 vv19 vv21 vv22 hs J
set_option maxHeartbeats 2000000 in
set_option maxRecDepth 20000 in
theorem vX5_odds (l : Launch) (D : tg_D) (o0 o1 o2 o3 o4 o5 o6 o7 o8 : Nat) (m_text : Nat → Int32) (m_size : Int32) (m_at : Int32) (m_begin : Int32) (m_token : Int32) (m_told : Int32) (m_read : Nat → Int32) (m_harbour : Nat → Int32) (m_now : Nat → Int32) (m_undone : Nat → Int32) (m_undos : Int32) (m_one : Int32) (m_two : Int32) (m_three : Int32) (m_chalks : Int32) (m_cb : Nat → Int32) (m_co : Nat → Int32) (m_trace : Int64) (m_kept : Nat → Int32) (p1 : Int32) (p2 : Int32) (X : tg_X) (hl0 : tg_l X = l) (C : tg_C X D 6 cX5_odds RX5 4 91 0 0) (V : tg_V X) (r : Int32) (q_m_one : Int32) (q_m_two : Int32) (q_m_three : Int32) (hs : fX5_odds m_harbour m_now m_one m_two m_three p1 p2 = some (r, q_m_one, q_m_two, q_m_three)) (hE : tg_Ei X D 0 0 cX5_odds .int r (tw_M D o0 o1 o2 o3 o4 o5 o6 o7 o8 m_text m_size m_at m_begin m_token m_told m_read m_harbour m_now m_undone m_undos q_m_one q_m_two q_m_three m_chalks m_cb m_co m_trace m_kept)) : tg_G X D 6 0 0 (tw_M D o0 o1 o2 o3 o4 o5 o6 o7 o8 m_text m_size m_at m_begin m_token m_told m_read m_harbour m_now m_undone m_undos m_one m_two m_three m_chalks m_cb m_co m_trace m_kept) [(0, .ref o0), (1, .int p1), (2, .int p2)] 0 [] := by
  unfold fX5_odds at hs
  refine tg_iload_n C dX5_odds_0 rfl 1 rfl ?_
  refine tg_i2l C dX5_odds_1 ?_
  refine tg_lconst (v := 0) C dX5_odds_2 (by decide) ?_
  refine tg_ldc2 C wm_825 dX5_odds_3 ?_
  obtain ⟨rr1, ee2, hs⟩ := tg_b1_e hs
  refine tg_pS (As := [.long (Int32.toInt64 p1), .long 0, .long 2]) (rest := []) C hl0 (kX5_in l D (Int32.toInt64 p1) 0 2 rr1 ee2) wm_768 meX5_in (by decide) rfl rfl (Nat.le_of_ble_eq_true rfl) dX5_odds_6 ?_
  refine tg_if_eq (tgt := 22) C dX5_odds_9 (by decide) (fun cc3 => ?_) (fun cc3 => ?_)
  · have hs := tg_t cc3 hs
    refine tg_iconst (v := (-1)) C dX5_odds_22 (by decide) ?_
    obtain ⟨rfl, rfl, rfl, rfl⟩ := tg_i4 hs
    exact tg_iret hE rfl dX5_odds_23
  · have hs := tg_f cc3 hs
    refine tg_iload_n C dX5_odds_12 rfl 2 rfl ?_
    refine tg_i2l C dX5_odds_13 ?_
    refine tg_lconst (v := 0) C dX5_odds_14 (by decide) ?_
    refine tg_lconst (v := 1) C dX5_odds_15 (by decide) ?_
    obtain ⟨rr4, ee5, hs⟩ := tg_b1_e hs
    refine tg_pS (As := [.long (Int32.toInt64 p2), .long 0, .long 1]) (rest := []) C hl0 (kX5_in l D (Int32.toInt64 p2) 0 1 rr4 ee5) wm_768 meX5_in (by decide) rfl rfl (Nat.le_of_ble_eq_true rfl) dX5_odds_16 ?_
    refine tg_if_ne (tgt := 24) C dX5_odds_19 (by decide) (fun cc6 => ?_) (fun cc6 => ?_)
    · have hs := tg_t cc6 hs
      refine tg_aload_n C dX5_odds_24 rfl 0 rfl ?_
      refine tg_aload_n C dX5_odds_25 rfl 0 rfl ?_
      obtain ⟨rr7, ee8, hs⟩ := tg_b1_e hs
      refine tg_pVs (As := []) (rest := [.ref o0]) C hl0 (kX5_free l D o0 o1 o2 o3 o4 o5 o6 o7 o8 m_text m_size m_at m_begin m_token m_told m_read m_harbour m_now m_undone m_undos m_one m_two m_three m_chalks m_cb m_co m_trace m_kept rr7 ee8) wm_875 meX5_free (by decide) rfl rfl rfl rfl (Nat.le_of_ble_eq_true rfl) dX5_odds_26 ?_
      obtain ⟨rr9, vv10, vv11, vv12, ee13, hs⟩ := tg_b4_e hs
      refine tg_eVs (ws' := (tw_M D o0 o1 o2 o3 o4 o5 o6 o7 o8 m_text m_size m_at m_begin m_token m_told m_read m_harbour m_now m_undone m_undos vv10 vv11 vv12 m_chalks m_cb m_co m_trace m_kept)) (As := [.int rr7]) (rest := []) C V hl0 (kX5_throwsFor l D o0 o1 o2 o3 o4 o5 o6 o7 o8 m_text m_size m_at m_begin m_token m_told m_read m_harbour m_now m_undone m_undos m_one m_two m_three m_chalks m_cb m_co m_trace m_kept rr7 rr9 vv10 vv11 vv12 ee13) wm_947 meX5_throwsFor (by decide) rfl rfl rfl rfl (Nat.le_of_ble_eq_true rfl) rfl dX5_odds_29 ?_
      refine tg_istore_n (lv' := [(3, .int rr9), (0, .ref o0), (1, .int p1), (2, .int p2)]) C dX5_odds_32 rfl (by decide) rfl ?_
      refine tg_iload_n C dX5_odds_33 rfl 2 rfl ?_
      refine tg_iconst (v := 1) C dX5_odds_34 (by decide) ?_
      refine tg_icmp_ne (tgt := 57) C dX5_odds_35 (by decide) (fun cc14 => ?_) (fun cc14 => ?_)
      · have hs := tg_t cc14 hs
        refine tg_iconst (v := 0) C dX5_odds_57 (by decide) ?_
        refine tg_istore (lv' := [(4, .int 0), (3, .int rr9), (0, .ref o0), (1, .int p1), (2, .int p2)]) C dX5_odds_58 (by decide) rfl ?_
        refine tg_iconst (v := 1) C dX5_odds_60 (by decide) ?_
        refine tg_istore (lv' := [(5, .int 1), (4, .int 0), (3, .int rr9), (0, .ref o0), (1, .int p1), (2, .int p2)]) C dX5_odds_61 (by decide) rfl ?_
        refine tg_lsub [3, 4, 5, 2, 1, 0] rfl ?_
        obtain ⟨vv23, vv24, vv25, vv26, vv27, ee28, hs⟩ := tg_b5_e hs
        refine vX5_odds_L63 l D o0 o1 o2 o3 o4 o5 o6 o7 o8 m_text m_size m_at m_begin m_token m_told m_read m_harbour m_now m_undone m_undos m_chalks m_cb m_co m_trace m_kept p1 p2 rr9 X hl0 C V vv23 vv24 vv25 vv26 vv27 400 vv10 vv11 vv12 0 1 ee28 ?_
        refine tg_iload_n C dX5_odds_91 rfl 1 rfl ?_
        obtain ⟨vv30, ee38, hs⟩ := tg_b1_e hs
        have JJ31 : tg_G X D 6 0 0 (tw_M D o0 o1 o2 o3 o4 o5 o6 o7 o8 m_text m_size m_at m_begin m_token m_told m_read m_harbour m_now m_undone m_undos vv23 vv24 vv25 m_chalks m_cb m_co m_trace m_kept) [(0, .ref o0), (1, .int p1), (2, .int p2), (3, .int rr9), (4, .int vv26), (5, .int vv27)] 106 [.int vv30] := by
          refine tg_aload_n C dX5_odds_106 rfl 0 rfl ?_
          obtain ⟨rr34, ee35, hs⟩ := tg_b1_e hs
          refine tg_pVs (As := []) (rest := [.int vv30]) C hl0 (kX5_throwsOf l D o0 o1 o2 o3 o4 o5 o6 o7 o8 m_text m_size m_at m_begin m_token m_told m_read m_harbour m_now m_undone m_undos vv23 vv24 vv25 m_chalks m_cb m_co m_trace m_kept rr34 ee35) wm_863 meX5_throwsOf (by decide) rfl rfl rfl rfl (Nat.le_of_ble_eq_true rfl) dX5_odds_107 ?_
          refine tg_iload_n C dX5_odds_110 rfl 2 rfl ?_
          obtain ⟨rr36, ee37, hs⟩ := tg_b1_e hs
          refine tg_pS (As := [.int vv30, .int rr34, .int p2]) (rest := []) C hl0 (kX5_least l D vv30 rr34 p2 rr36 ee37) wm_955 meX5_least (by decide) rfl rfl (Nat.le_of_ble_eq_true rfl) dX5_odds_111 ?_
          obtain ⟨rfl, rfl, rfl, rfl⟩ := tg_i4 hs
          exact tg_iret hE rfl dX5_odds_114
        have hs := ee38
        clear ee38
        refine tg_if_ne (tgt := 104) C dX5_odds_92 (by decide) (fun cc29 => ?_) (fun cc29 => ?_)
        · have hs := tg_t cc29 hs
          refine tg_iload C dX5_odds_104 4 rfl ?_
          obtain rfl := Option.some.inj hs
          exact JJ31
        · have hs := tg_nf cc29 hs
          refine tg_aload_n C dX5_odds_95 rfl 0 rfl ?_
          obtain ⟨rr32, ee33, hs⟩ := tg_b1_e hs
          refine tg_pVs (As := []) (rest := []) C hl0 (kX5_throwsOf l D o0 o1 o2 o3 o4 o5 o6 o7 o8 m_text m_size m_at m_begin m_token m_told m_read m_harbour m_now m_undone m_undos vv23 vv24 vv25 m_chalks m_cb m_co m_trace m_kept rr32 ee33) wm_863 meX5_throwsOf (by decide) rfl rfl rfl rfl (Nat.le_of_ble_eq_true rfl) dX5_odds_96 ?_
          refine tg_iload_n C dX5_odds_99 rfl 3 rfl ?_
          refine tg_isub C dX5_odds_100 ?_
          refine tg_goto (tgt := 106) C dX5_odds_101 (by decide) ?_
          obtain rfl := Option.some.inj hs
          exact JJ31
      · have hs := tg_nf cc14 hs
        refine tg_iload_n C dX5_odds_38 rfl 0 rfl ?_
        refine tg_if_ne (tgt := 47) C dX5_odds_39 (by decide) (fun cc39 => ?_) (fun cc39 => ?_)
        · have hs := tg_t cc39 hs
          refine tg_aload_n C dX5_odds_47 rfl 1 rfl ?_
          obtain ⟨rr40, ee41, hs⟩ := tg_b1_e hs
          refine tg_pVs (As := []) (rest := []) C hl0 (kX5_throwsOf l D o0 o1 o2 o3 o4 o5 o6 o7 o8 m_text m_size m_at m_begin m_token m_told m_read m_harbour m_now m_undone m_undos vv10 vv11 vv12 m_chalks m_cb m_co m_trace m_kept rr40 ee41) wm_863 meX5_throwsOf (by decide) rfl rfl rfl rfl (Nat.le_of_ble_eq_true rfl) dX5_odds_48 ?_
          refine tg_iload_n C dX5_odds_51 rfl 0 rfl ?_
          refine tg_iload_n C dX5_odds_52 rfl 3 rfl ?_
          obtain ⟨rr42, ee43, hs⟩ := tg_b1_e hs
          refine tg_pS (As := [.int rr40, .int rr9, .int p2]) (rest := []) C hl0 (kX5_least l D rr40 rr9 p2 rr42 ee43) wm_955 meX5_least (by decide) rfl rfl (Nat.le_of_ble_eq_true rfl) dX5_odds_53 ?_
          obtain ⟨rfl, rfl, rfl, rfl⟩ := tg_i4 hs
          exact tg_iret hE rfl dX5_odds_56
        · have hs := tg_nf cc39 hs
          refine tg_bipush (v := (-9)) C dX5_odds_42 (by decide) ?_
          refine tg_goto (tgt := 56) C dX5_odds_44 (by decide) ?_
          obtain ⟨rfl, rfl, rfl, rfl⟩ := tg_i4 hs
          exact tg_iret hE rfl dX5_odds_56
    · have hs := tg_nf cc6 hs
      refine tg_iconst (v := (-1)) C dX5_odds_22 (by decide) ?_
      obtain ⟨rfl, rfl, rfl, rfl⟩ := tg_i4 hs
      exact tg_iret hE rfl dX5_odds_23
set_option maxHeartbeats 2000000 in
set_option maxRecDepth 20000 in
theorem kX5_odds (l : Launch) (D : tg_D) (o0 o1 o2 o3 o4 o5 o6 o7 o8 : Nat) (m_text : Nat → Int32) (m_size : Int32) (m_at : Int32) (m_begin : Int32) (m_token : Int32) (m_told : Int32) (m_read : Nat → Int32) (m_harbour : Nat → Int32) (m_now : Nat → Int32) (m_undone : Nat → Int32) (m_undos : Int32) (m_one : Int32) (m_two : Int32) (m_three : Int32) (m_chalks : Int32) (m_cb : Nat → Int32) (m_co : Nat → Int32) (m_trace : Int64) (m_kept : Nat → Int32) (p1 : Int32) (p2 : Int32) (r : Int32) (q_m_one : Int32) (q_m_two : Int32) (q_m_three : Int32) (hs : fX5_odds m_harbour m_now m_one m_two m_three p1 p2 = some (r, q_m_one, q_m_two, q_m_three)) : Met l yX5_odds [Cond.code yX5_odds cX5_odds 6 (some .int)] (tg_rm 4 91) (tg_Pre D (tw_M D o0 o1 o2 o3 o4 o5 o6 o7 o8 m_text m_size m_at m_begin m_token m_told m_read m_harbour m_now m_undone m_undos m_one m_two m_three m_chalks m_cb m_co m_trace m_kept) [.ref o0, .int p1, .int p2]) (tg_Qe (some (.int r)) D (tw_M D o0 o1 o2 o3 o4 o5 o6 o7 o8 m_text m_size m_at m_begin m_token m_told m_read m_harbour m_now m_undone m_undos q_m_one q_m_two q_m_three m_chalks m_cb m_co m_trace m_kept) (tg_Ad (tw_M D o0 o1 o2 o3 o4 o5 o6 o7 o8 m_text m_size m_at m_begin m_token m_told m_read m_harbour m_now m_undone m_undos m_one m_two m_three m_chalks m_cb m_co m_trace m_kept))) 0 0 (tg_Ad (tw_M D o0 o1 o2 o3 o4 o5 o6 o7 o8 m_text m_size m_at m_begin m_token m_told m_read m_harbour m_now m_undone m_undos m_one m_two m_three m_chalks m_cb m_co m_trace m_kept)) := tg_metEi (by decide) (Nat.le_of_ble_eq_true rfl) (fun X hl0 C V hE => vX5_odds l D o0 o1 o2 o3 o4 o5 o6 o7 o8 m_text m_size m_at m_begin m_token m_told m_read m_harbour m_now m_undone m_undos m_one m_two m_three m_chalks m_cb m_co m_trace m_kept p1 p2 X hl0 C V r q_m_one q_m_two q_m_three hs hE)
