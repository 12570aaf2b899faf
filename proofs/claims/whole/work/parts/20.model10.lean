def fX5_back_L44 (m_kept : Nat → Int32) (n2 : Int32) : Nat → (Nat → Int32) → Int32 → Option ((Nat → Int32) × Int32)
  | 0, _, _ => none
  | fuel + 1, m_now, n3 => if 27 ≤ n3 then (some (m_now, n3)) else (tg_ck ((n2 + 2) + n3) 706 <| tg_nm (m_kept (Int32.toNatClampNeg ((n2 + 2) + n3))) fun vv11 => tg_ck n3 27 <| tg_nm (upd m_now (Int32.toNatClampNeg n3) vv11) fun gg12 => tg_nm (n3 + 1) fun vv14 => fX5_back_L44 m_kept n2 fuel gg12 vv14)
def fX5_back_L74 (m_kept : Nat → Int32) (n2 : Int32) : Nat → (Nat → Int32) → Int32 → Option ((Nat → Int32) × Int32)
  | 0, _, _ => none
  | fuel + 1, m_undone, n3 => if 324 ≤ n3 then (some (m_undone, n3)) else (tg_ck ((n2 + 29) + n3) 706 <| tg_nm (m_kept (Int32.toNatClampNeg ((n2 + 29) + n3))) fun vv20 => tg_ck n3 324 <| tg_nm (upd m_undone (Int32.toNatClampNeg n3) vv20) fun gg21 => tg_nm (n3 + 1) fun vv23 => fX5_back_L74 m_kept n2 fuel gg21 vv23)
def fX5_back (m_now : Nat → Int32) (m_undone : Nat → Int32) (m_undos : Int32) (m_kept : Nat → Int32) (p1 : Int32) : Option (Int32 × (Nat → Int32) × (Nat → Int32) × Int32) := tg_b1 (fX5_in (Int32.toInt64 p1) 0 1) fun rr1 => if ¬ rr1 = 0 then (tg_nm (353 * p1) fun vv4 => tg_ck vv4 706 <| if ¬ (m_kept (Int32.toNatClampNeg vv4)) = 0 then (tg_ck (vv4 + 1) 706 <| tg_nm (m_kept (Int32.toNatClampNeg (vv4 + 1))) fun vv8 => tg_b2 (fX5_back_L44 m_kept vv4 400 m_now 0) fun vv15 vv16 => tg_b2 (fX5_back_L74 m_kept vv4 400 m_undone 0) fun vv24 vv25 => some (vv15 0, vv15, vv24, vv8)) else (some ((-2), m_now, m_undone, m_undos))) else (some ((-1), m_now, m_undone, m_undos))
set_option maxHeartbeats 2000000 in
set_option maxRecDepth 20000 in
theorem vX5_back_L44 (l : Launch) (D : tg_D) (o0 o1 o2 o3 o4 o5 o6 o7 o8 : Nat) (m_text : Nat → Int32) (m_size : Int32) (m_at : Int32) (m_begin : Int32) (m_token : Int32) (m_told : Int32) (m_read : Nat → Int32) (m_harbour : Nat → Int32) (m_undone : Nat → Int32) (m_undos : Int32) (m_one : Int32) (m_two : Int32) (m_three : Int32) (m_chalks : Int32) (m_cb : Nat → Int32) (m_co : Nat → Int32) (m_trace : Int64) (m_kept : Nat → Int32) (n1 : Int32) (n2 : Int32) (X : tg_X) (hl0 : tg_l X = l) (C : tg_C X D 4 cX5_back RX5 1 25 0 0) (V : tg_V X) (o_m_now : Nat → Int32) (o_n3 : Int32) : ∀ (fuel : Nat) (m_now : Nat → Int32) (n3 : Int32), fX5_back_L44 m_kept n2 fuel m_now n3 = some (o_m_now, o_n3) → tg_G X D 4 0 0 (tw_M D o0 o1 o2 o3 o4 o5 o6 o7 o8 m_text m_size m_at m_begin m_token m_told m_read m_harbour o_m_now m_undone m_undos m_one m_two m_three m_chalks m_cb m_co m_trace m_kept) [(0, .ref o0), (1, .int n1), (2, .int n2), (3, .int o_n3)] 72 [] → tg_G X D 4 0 0 (tw_M D o0 o1 o2 o3 o4 o5 o6 o7 o8 m_text m_size m_at m_begin m_token m_told m_read m_harbour m_now m_undone m_undos m_one m_two m_three m_chalks m_cb m_co m_trace m_kept) [(0, .ref o0), (1, .int n1), (2, .int n2), (3, .int n3)] 44 [] := by
  intro fuel
  induction fuel with
  | zero =>
    intro m_now n3 hs _
    rw [fX5_back_L44] at hs
    cases hs
  | succ fuel ih =>
    intro m_now n3 hs J
    rw [fX5_back_L44] at hs
    refine tg_iload_n C dX5_back_44 rfl 3 rfl ?_
    refine tg_bipush (v := 27) C dX5_back_45 (by decide) ?_
    refine tg_icmp_ge (tgt := 72) C dX5_back_47 (by decide) (fun cc9 => ?_) (fun cc9 => ?_)
    · have hs := tg_t cc9 hs
      obtain ⟨rfl, rfl⟩ := tg_i2 hs
      exact J
    · have hs := tg_f cc9 hs
      refine tg_aload_n C dX5_back_50 rfl 0 rfl ?_
      refine tg_get (v := .ref o4) C cfX5 0 rfl 8 (by decide) wm_713 rfl dX5_back_51 ?_
      refine tg_iload_n C dX5_back_54 rfl 3 rfl ?_
      refine tg_aload_n C dX5_back_55 rfl 0 rfl ?_
      refine tg_get (v := .ref o8) C cfX5 0 rfl 18 (by decide) wm_723 rfl dX5_back_56 ?_
      refine tg_iload_n C dX5_back_59 rfl 2 rfl ?_
      refine tg_iconst (v := 2) C dX5_back_60 (by decide) ?_
      refine tg_iadd C dX5_back_61 ?_
      refine tg_iload_n C dX5_back_62 rfl 3 rfl ?_
      refine tg_iadd C dX5_back_63 ?_
      obtain ⟨hh10, hs⟩ := tg_ck_e hs
      refine tg_iald C 8 0 rfl rfl hh10 dX5_back_64 ?_
      obtain ⟨vv11, evv11, hs⟩ := tg_nm_e hs
      refine tg_topi evv11 ?_
      obtain ⟨hh13, hs⟩ := tg_ck_e hs
      obtain ⟨gg12, egg12, hs⟩ := tg_nm_e hs
      refine tg_iast (ws' := (tw_M D o0 o1 o2 o3 o4 o5 o6 o7 o8 m_text m_size m_at m_begin m_token m_told m_read m_harbour gg12 m_undone m_undos m_one m_two m_three m_chalks m_cb m_co m_trace m_kept)) C V 4 0 rfl rfl hh13 egg12 rfl dX5_back_65 ?_
      obtain ⟨vv14, evv14, hs⟩ := tg_nm_e hs
      refine tg_iinc (v := vv14) (lv' := [(3, .int vv14), (0, .ref o0), (1, .int n1), (2, .int n2)]) C dX5_back_66 3 rfl (by rw [evv14]; rfl) (by decide) rfl ?_
      refine tg_goto (tgt := 44) C dX5_back_69 (by decide) ?_
      refine tg_lsub [1, 2, 3, 0] rfl ?_
      exact ih gg12 vv14 hs J
set_option maxHeartbeats 2000000 in
set_option maxRecDepth 20000 in
theorem vX5_back_L74 (l : Launch) (D : tg_D) (o0 o1 o2 o3 o4 o5 o6 o7 o8 : Nat) (m_text : Nat → Int32) (m_size : Int32) (m_at : Int32) (m_begin : Int32) (m_token : Int32) (m_told : Int32) (m_read : Nat → Int32) (m_harbour : Nat → Int32) (m_now : Nat → Int32) (m_undos : Int32) (m_one : Int32) (m_two : Int32) (m_three : Int32) (m_chalks : Int32) (m_cb : Nat → Int32) (m_co : Nat → Int32) (m_trace : Int64) (m_kept : Nat → Int32) (n1 : Int32) (n2 : Int32) (X : tg_X) (hl0 : tg_l X = l) (C : tg_C X D 4 cX5_back RX5 1 25 0 0) (V : tg_V X) (o_m_undone : Nat → Int32) (o_n3 : Int32) : ∀ (fuel : Nat) (m_undone : Nat → Int32) (n3 : Int32), fX5_back_L74 m_kept n2 fuel m_undone n3 = some (o_m_undone, o_n3) → tg_G X D 4 0 0 (tw_M D o0 o1 o2 o3 o4 o5 o6 o7 o8 m_text m_size m_at m_begin m_token m_told m_read m_harbour m_now o_m_undone m_undos m_one m_two m_three m_chalks m_cb m_co m_trace m_kept) [(0, .ref o0), (1, .int n1), (2, .int n2), (3, .int o_n3)] 104 [] → tg_G X D 4 0 0 (tw_M D o0 o1 o2 o3 o4 o5 o6 o7 o8 m_text m_size m_at m_begin m_token m_told m_read m_harbour m_now m_undone m_undos m_one m_two m_three m_chalks m_cb m_co m_trace m_kept) [(0, .ref o0), (1, .int n1), (2, .int n2), (3, .int n3)] 74 [] := by
  intro fuel
  induction fuel with
  | zero =>
    intro m_undone n3 hs _
    rw [fX5_back_L74] at hs
    cases hs
  | succ fuel ih =>
    intro m_undone n3 hs J
    rw [fX5_back_L74] at hs
    refine tg_iload_n C dX5_back_74 rfl 3 rfl ?_
    refine tg_sipush (v := 324) C dX5_back_75 (by decide) ?_
    refine tg_icmp_ge (tgt := 104) C dX5_back_78 (by decide) (fun cc18 => ?_) (fun cc18 => ?_)
    · have hs := tg_t cc18 hs
      obtain ⟨rfl, rfl⟩ := tg_i2 hs
      exact J
    · have hs := tg_f cc18 hs
      refine tg_aload_n C dX5_back_81 rfl 0 rfl ?_
      refine tg_get (v := .ref o5) C cfX5 0 rfl 9 (by decide) wm_714 rfl dX5_back_82 ?_
      refine tg_iload_n C dX5_back_85 rfl 3 rfl ?_
      refine tg_aload_n C dX5_back_86 rfl 0 rfl ?_
      refine tg_get (v := .ref o8) C cfX5 0 rfl 18 (by decide) wm_723 rfl dX5_back_87 ?_
      refine tg_iload_n C dX5_back_90 rfl 2 rfl ?_
      refine tg_bipush (v := 29) C dX5_back_91 (by decide) ?_
      refine tg_iadd C dX5_back_93 ?_
      refine tg_iload_n C dX5_back_94 rfl 3 rfl ?_
      refine tg_iadd C dX5_back_95 ?_
      obtain ⟨hh19, hs⟩ := tg_ck_e hs
      refine tg_iald C 8 0 rfl rfl hh19 dX5_back_96 ?_
      obtain ⟨vv20, evv20, hs⟩ := tg_nm_e hs
      refine tg_topi evv20 ?_
      obtain ⟨hh22, hs⟩ := tg_ck_e hs
      obtain ⟨gg21, egg21, hs⟩ := tg_nm_e hs
      refine tg_iast (ws' := (tw_M D o0 o1 o2 o3 o4 o5 o6 o7 o8 m_text m_size m_at m_begin m_token m_told m_read m_harbour m_now gg21 m_undos m_one m_two m_three m_chalks m_cb m_co m_trace m_kept)) C V 5 0 rfl rfl hh22 egg21 rfl dX5_back_97 ?_
      obtain ⟨vv23, evv23, hs⟩ := tg_nm_e hs
      refine tg_iinc (v := vv23) (lv' := [(3, .int vv23), (0, .ref o0), (1, .int n1), (2, .int n2)]) C dX5_back_98 3 rfl (by rw [evv23]; rfl) (by decide) rfl ?_
      refine tg_goto (tgt := 74) C dX5_back_101 (by decide) ?_
      refine tg_lsub [1, 2, 3, 0] rfl ?_
      exact ih gg21 vv23 hs J
set_option maxHeartbeats 2000000 in
set_option maxRecDepth 20000 in
theorem vX5_back (l : Launch) (D : tg_D) (o0 o1 o2 o3 o4 o5 o6 o7 o8 : Nat) (m_text : Nat → Int32) (m_size : Int32) (m_at : Int32) (m_begin : Int32) (m_token : Int32) (m_told : Int32) (m_read : Nat → Int32) (m_harbour : Nat → Int32) (m_now : Nat → Int32) (m_undone : Nat → Int32) (m_undos : Int32) (m_one : Int32) (m_two : Int32) (m_three : Int32) (m_chalks : Int32) (m_cb : Nat → Int32) (m_co : Nat → Int32) (m_trace : Int64) (m_kept : Nat → Int32) (p1 : Int32) (X : tg_X) (hl0 : tg_l X = l) (C : tg_C X D 4 cX5_back RX5 1 25 0 0) (V : tg_V X) (r : Int32) (q_m_now : Nat → Int32) (q_m_undone : Nat → Int32) (q_m_undos : Int32) (hs : fX5_back m_now m_undone m_undos m_kept p1 = some (r, q_m_now, q_m_undone, q_m_undos)) (hE : tg_Ei X D 0 0 cX5_back .int r (tw_M D o0 o1 o2 o3 o4 o5 o6 o7 o8 m_text m_size m_at m_begin m_token m_told m_read m_harbour q_m_now q_m_undone q_m_undos m_one m_two m_three m_chalks m_cb m_co m_trace m_kept)) : tg_G X D 4 0 0 (tw_M D o0 o1 o2 o3 o4 o5 o6 o7 o8 m_text m_size m_at m_begin m_token m_told m_read m_harbour m_now m_undone m_undos m_one m_two m_three m_chalks m_cb m_co m_trace m_kept) [(0, .ref o0), (1, .int p1)] 0 [] := by
  unfold fX5_back at hs
  refine tg_iload_n C dX5_back_0 rfl 1 rfl ?_
  refine tg_i2l C dX5_back_1 ?_
  refine tg_lconst (v := 0) C dX5_back_2 (by decide) ?_
  refine tg_lconst (v := 1) C dX5_back_3 (by decide) ?_
  obtain ⟨rr1, ee2, hs⟩ := tg_b1_e hs
  refine tg_pS (As := [.long (Int32.toInt64 p1), .long 0, .long 1]) (rest := []) C hl0 (kX5_in l D (Int32.toInt64 p1) 0 1 rr1 ee2) wm_768 meX5_in (by decide) rfl rfl (Nat.le_of_ble_eq_true rfl) dX5_back_4 ?_
  refine tg_if_ne (tgt := 12) C dX5_back_7 (by decide) (fun cc3 => ?_) (fun cc3 => ?_)
  · have hs := tg_t cc3 hs
    refine tg_sipush (v := 353) C dX5_back_12 (by decide) ?_
    refine tg_iload_n C dX5_back_15 rfl 1 rfl ?_
    refine tg_imul C dX5_back_16 ?_
    obtain ⟨vv4, evv4, hs⟩ := tg_nm_e hs
    refine tg_topi evv4 ?_
    refine tg_istore_n (lv' := [(2, .int vv4), (0, .ref o0), (1, .int p1)]) C dX5_back_17 rfl (by decide) rfl ?_
    refine tg_aload_n C dX5_back_18 rfl 1 rfl ?_
    refine tg_get (v := .ref o8) C cfX5 0 rfl 18 (by decide) wm_723 rfl dX5_back_19 ?_
    refine tg_iload_n C dX5_back_22 rfl 0 rfl ?_
    obtain ⟨hh5, hs⟩ := tg_ck_e hs
    refine tg_iald C 8 0 rfl rfl hh5 dX5_back_23 ?_
    refine tg_if_ne (tgt := 30) C dX5_back_24 (by decide) (fun cc6 => ?_) (fun cc6 => ?_)
    · have hs := tg_t cc6 hs
      refine tg_aload_n C dX5_back_30 rfl 1 rfl ?_
      refine tg_aload_n C dX5_back_31 rfl 1 rfl ?_
      refine tg_get (v := .ref o8) C cfX5 0 rfl 18 (by decide) wm_723 rfl dX5_back_32 ?_
      refine tg_iload_n C dX5_back_35 rfl 0 rfl ?_
      refine tg_iconst (v := 1) C dX5_back_36 (by decide) ?_
      refine tg_iadd C dX5_back_37 ?_
      obtain ⟨hh7, hs⟩ := tg_ck_e hs
      refine tg_iald C 8 0 rfl rfl hh7 dX5_back_38 ?_
      obtain ⟨vv8, evv8, hs⟩ := tg_nm_e hs
      refine tg_topi evv8 ?_
      refine tg_put (ws' := (tw_M D o0 o1 o2 o3 o4 o5 o6 o7 o8 m_text m_size m_at m_begin m_token m_told m_read m_harbour m_now m_undone vv8 m_one m_two m_three m_chalks m_cb m_co m_trace m_kept)) C V cfX5 0 rfl 10 (by decide) wm_715 rfl rfl rfl (Nat.le_of_ble_eq_true rfl) rfl dX5_back_39 ?_
      refine tg_iconst (v := 0) C dX5_back_42 (by decide) ?_
      refine tg_istore_n (lv' := [(3, .int 0), (2, .int vv4), (0, .ref o0), (1, .int p1)]) C dX5_back_43 rfl (by decide) rfl ?_
      refine tg_lsub [2, 3, 1, 0] rfl ?_
      obtain ⟨vv15, vv16, ee17, hs⟩ := tg_b2_e hs
      refine vX5_back_L44 l D o0 o1 o2 o3 o4 o5 o6 o7 o8 m_text m_size m_at m_begin m_token m_told m_read m_harbour m_undone vv8 m_one m_two m_three m_chalks m_cb m_co m_trace m_kept p1 vv4 X hl0 C V vv15 vv16 400 m_now 0 ee17 ?_
      refine tg_iconst (v := 0) C dX5_back_72 (by decide) ?_
      refine tg_istore_n (lv' := [(3, .int 0), (0, .ref o0), (1, .int p1), (2, .int vv4)]) C dX5_back_73 rfl (by decide) rfl ?_
      refine tg_lsub [1, 2, 3, 0] rfl ?_
      obtain ⟨vv24, vv25, ee26, hs⟩ := tg_b2_e hs
      refine vX5_back_L74 l D o0 o1 o2 o3 o4 o5 o6 o7 o8 m_text m_size m_at m_begin m_token m_told m_read m_harbour vv15 vv8 m_one m_two m_three m_chalks m_cb m_co m_trace m_kept p1 vv4 X hl0 C V vv24 vv25 400 m_undone 0 ee26 ?_
      refine tg_aload_n C dX5_back_104 rfl 0 rfl ?_
      refine tg_get (v := .ref o4) C cfX5 0 rfl 8 (by decide) wm_713 rfl dX5_back_105 ?_
      refine tg_iconst (v := 0) C dX5_back_108 (by decide) ?_
      refine tg_iald C 4 0 rfl rfl (tg_vin (by decide)) dX5_back_109 ?_
      refine tg_topi (y := vv15 0) rfl ?_
      obtain ⟨rfl, rfl, rfl, rfl⟩ := tg_i4 hs
      exact tg_iret hE rfl dX5_back_110
    · have hs := tg_nf cc6 hs
      refine tg_bipush (v := (-2)) C dX5_back_27 (by decide) ?_
      obtain ⟨rfl, rfl, rfl, rfl⟩ := tg_i4 hs
      exact tg_iret hE rfl dX5_back_29
  · have hs := tg_nf cc3 hs
    refine tg_iconst (v := (-1)) C dX5_back_10 (by decide) ?_
    obtain ⟨rfl, rfl, rfl, rfl⟩ := tg_i4 hs
    exact tg_iret hE rfl dX5_back_11
set_option maxHeartbeats 2000000 in
set_option maxRecDepth 20000 in
theorem kX5_back (l : Launch) (D : tg_D) (o0 o1 o2 o3 o4 o5 o6 o7 o8 : Nat) (m_text : Nat → Int32) (m_size : Int32) (m_at : Int32) (m_begin : Int32) (m_token : Int32) (m_told : Int32) (m_read : Nat → Int32) (m_harbour : Nat → Int32) (m_now : Nat → Int32) (m_undone : Nat → Int32) (m_undos : Int32) (m_one : Int32) (m_two : Int32) (m_three : Int32) (m_chalks : Int32) (m_cb : Nat → Int32) (m_co : Nat → Int32) (m_trace : Int64) (m_kept : Nat → Int32) (p1 : Int32) (r : Int32) (q_m_now : Nat → Int32) (q_m_undone : Nat → Int32) (q_m_undos : Int32) (hs : fX5_back m_now m_undone m_undos m_kept p1 = some (r, q_m_now, q_m_undone, q_m_undos)) : Met l yX5_back [Cond.code yX5_back cX5_back 4 (some .int)] (tg_rm 1 25) (tg_Pre D (tw_M D o0 o1 o2 o3 o4 o5 o6 o7 o8 m_text m_size m_at m_begin m_token m_told m_read m_harbour m_now m_undone m_undos m_one m_two m_three m_chalks m_cb m_co m_trace m_kept) [.ref o0, .int p1]) (tg_Qe (some (.int r)) D (tw_M D o0 o1 o2 o3 o4 o5 o6 o7 o8 m_text m_size m_at m_begin m_token m_told m_read m_harbour q_m_now q_m_undone q_m_undos m_one m_two m_three m_chalks m_cb m_co m_trace m_kept) (tg_Ad (tw_M D o0 o1 o2 o3 o4 o5 o6 o7 o8 m_text m_size m_at m_begin m_token m_told m_read m_harbour m_now m_undone m_undos m_one m_two m_three m_chalks m_cb m_co m_trace m_kept))) 0 0 (tg_Ad (tw_M D o0 o1 o2 o3 o4 o5 o6 o7 o8 m_text m_size m_at m_begin m_token m_told m_read m_harbour m_now m_undone m_undos m_one m_two m_three m_chalks m_cb m_co m_trace m_kept)) := tg_metEi (by decide) (Nat.le_of_ble_eq_true rfl) (fun X hl0 C V hE => vX5_back l D o0 o1 o2 o3 o4 o5 o6 o7 o8 m_text m_size m_at m_begin m_token m_told m_read m_harbour m_now m_undone m_undos m_one m_two m_three m_chalks m_cb m_co m_trace m_kept p1 X hl0 C V r q_m_now q_m_undone q_m_undos hs hE)
def fX5_count (m_size : Int32) (m_harbour : Nat → Int32) (m_undos : Int32) (m_chalks : Int32) (p1 : Int32) : Option (Int32) := if p1 = 0 then (tg_ck p1 25 <| some (m_harbour (Int32.toNatClampNeg p1))) else (if p1 = 1 then (tg_ck p1 25 <| some (m_harbour (Int32.toNatClampNeg p1))) else (if p1 = 2 then (tg_b1 (fX5_throwsOf m_harbour) fun rr6 => some rr6) else (if p1 = 3 then (some m_chalks) else (if p1 = 4 then (some m_undos) else (if p1 = 5 then (some m_size) else (some (-1)))))))
set_option maxHeartbeats 2000000 in
set_option maxRecDepth 20000 in
theorem vX5_count (l : Launch) (D : tg_D) (o0 o1 o2 o3 o4 o5 o6 o7 o8 : Nat) (m_text : Nat → Int32) (m_size : Int32) (m_at : Int32) (m_begin : Int32) (m_token : Int32) (m_told : Int32) (m_read : Nat → Int32) (m_harbour : Nat → Int32) (m_now : Nat → Int32) (m_undone : Nat → Int32) (m_undos : Int32) (m_one : Int32) (m_two : Int32) (m_three : Int32) (m_chalks : Int32) (m_cb : Nat → Int32) (m_co : Nat → Int32) (m_trace : Int64) (m_kept : Nat → Int32) (p1 : Int32) (X : tg_X) (hl0 : tg_l X = l) (C : tg_C X D 2 cX5_count RX5 2 41 0 0) (r : Int32) (hs : fX5_count m_size m_harbour m_undos m_chalks p1 = some r) (hE : tg_Ei X D 0 0 cX5_count .int r (tw_M D o0 o1 o2 o3 o4 o5 o6 o7 o8 m_text m_size m_at m_begin m_token m_told m_read m_harbour m_now m_undone m_undos m_one m_two m_three m_chalks m_cb m_co m_trace m_kept)) : tg_G X D 2 0 0 (tw_M D o0 o1 o2 o3 o4 o5 o6 o7 o8 m_text m_size m_at m_begin m_token m_told m_read m_harbour m_now m_undone m_undos m_one m_two m_three m_chalks m_cb m_co m_trace m_kept) [(0, .ref o0), (1, .int p1)] 0 [] := by
  unfold fX5_count at hs
  refine tg_iload_n C dX5_count_0 rfl 1 rfl ?_
  by_cases ss1 : p1 = 0
  · have hs := tg_t ss1 hs
    refine tg_swIn (off := 39) (tgt := 40) C 0 ss1 dX5_count_1 (by decide) (by decide) ?_
    refine tg_aload_n C dX5_count_40 rfl 0 rfl ?_
    refine tg_get (v := .ref o3) C cfX5 0 rfl 7 (by decide) wm_712 rfl dX5_count_41 ?_
    refine tg_iload_n C dX5_count_44 rfl 1 rfl ?_
    obtain ⟨hh2, hs⟩ := tg_ck_e hs
    refine tg_iald C 3 0 rfl rfl hh2 dX5_count_45 ?_
    obtain rfl := Option.some.inj hs
    exact tg_iret hE rfl dX5_count_46
  · have hs := tg_f ss1 hs
    by_cases ss3 : p1 = 1
    · have hs := tg_t ss3 hs
      refine tg_swIn (off := 39) (tgt := 40) C 1 ss3 dX5_count_1 (by decide) (by decide) ?_
      refine tg_aload_n C dX5_count_40 rfl 0 rfl ?_
      refine tg_get (v := .ref o3) C cfX5 0 rfl 7 (by decide) wm_712 rfl dX5_count_41 ?_
      refine tg_iload_n C dX5_count_44 rfl 1 rfl ?_
      obtain ⟨hh4, hs⟩ := tg_ck_e hs
      refine tg_iald C 3 0 rfl rfl hh4 dX5_count_45 ?_
      obtain rfl := Option.some.inj hs
      exact tg_iret hE rfl dX5_count_46
    · have hs := tg_f ss3 hs
      by_cases ss5 : p1 = 2
      · have hs := tg_t ss5 hs
        refine tg_swIn (off := 46) (tgt := 47) C 2 ss5 dX5_count_1 (by decide) (by decide) ?_
        refine tg_aload_n C dX5_count_47 rfl 0 rfl ?_
        obtain ⟨rr6, ee7, hs⟩ := tg_b1_e hs
        refine tg_pVs (As := []) (rest := []) C hl0 (kX5_throwsOf l D o0 o1 o2 o3 o4 o5 o6 o7 o8 m_text m_size m_at m_begin m_token m_told m_read m_harbour m_now m_undone m_undos m_one m_two m_three m_chalks m_cb m_co m_trace m_kept rr6 ee7) wm_863 meX5_throwsOf (by decide) rfl rfl rfl rfl (Nat.le_of_ble_eq_true rfl) dX5_count_48 ?_
        obtain rfl := Option.some.inj hs
        exact tg_iret hE rfl dX5_count_51
      · have hs := tg_f ss5 hs
        by_cases ss8 : p1 = 3
        · have hs := tg_t ss8 hs
          refine tg_swIn (off := 51) (tgt := 52) C 3 ss8 dX5_count_1 (by decide) (by decide) ?_
          refine tg_aload_n C dX5_count_52 rfl 0 rfl ?_
          refine tg_get (v := .int m_chalks) C cfX5 0 rfl 14 (by decide) wm_719 rfl dX5_count_53 ?_
          obtain rfl := Option.some.inj hs
          exact tg_iret hE rfl dX5_count_56
        · have hs := tg_f ss8 hs
          by_cases ss9 : p1 = 4
          · have hs := tg_t ss9 hs
            refine tg_swIn (off := 56) (tgt := 57) C 4 ss9 dX5_count_1 (by decide) (by decide) ?_
            refine tg_aload_n C dX5_count_57 rfl 0 rfl ?_
            refine tg_get (v := .int m_undos) C cfX5 0 rfl 10 (by decide) wm_715 rfl dX5_count_58 ?_
            obtain rfl := Option.some.inj hs
            exact tg_iret hE rfl dX5_count_61
          · have hs := tg_f ss9 hs
            by_cases ss10 : p1 = 5
            · have hs := tg_t ss10 hs
              refine tg_swIn (off := 61) (tgt := 62) C 5 ss10 dX5_count_1 (by decide) (by decide) ?_
              refine tg_aload_n C dX5_count_62 rfl 0 rfl ?_
              refine tg_get (v := .int m_size) C cfX5 0 rfl 1 (by decide) wm_706 rfl dX5_count_63 ?_
              obtain rfl := Option.some.inj hs
              exact tg_iret hE rfl dX5_count_66
            · have hs := tg_f ss10 hs
              refine tg_swOut (tgt := 67) C (by have a0 := lv_neT (a := 0) ss1 rfl; have a1 := lv_neT (a := 1) ss3 rfl; have a2 := lv_neT (a := 2) ss5 rfl; have a3 := lv_neT (a := 3) ss8 rfl; have a4 := lv_neT (a := 4) ss9 rfl; have a5 := lv_neT (a := 5) ss10 rfl; omega) dX5_count_1 (by decide) ?_
              refine tg_iconst (v := (-1)) C dX5_count_67 (by decide) ?_
              obtain rfl := Option.some.inj hs
              exact tg_iret hE rfl dX5_count_68
set_option maxHeartbeats 2000000 in
set_option maxRecDepth 20000 in
theorem kX5_count (l : Launch) (D : tg_D) (o0 o1 o2 o3 o4 o5 o6 o7 o8 : Nat) (m_text : Nat → Int32) (m_size : Int32) (m_at : Int32) (m_begin : Int32) (m_token : Int32) (m_told : Int32) (m_read : Nat → Int32) (m_harbour : Nat → Int32) (m_now : Nat → Int32) (m_undone : Nat → Int32) (m_undos : Int32) (m_one : Int32) (m_two : Int32) (m_three : Int32) (m_chalks : Int32) (m_cb : Nat → Int32) (m_co : Nat → Int32) (m_trace : Int64) (m_kept : Nat → Int32) (p1 : Int32) (r : Int32) (hs : fX5_count m_size m_harbour m_undos m_chalks p1 = some r) : Met l yX5_count [Cond.code yX5_count cX5_count 2 (some .int)] (tg_rm 2 41) (tg_Pre D (tw_M D o0 o1 o2 o3 o4 o5 o6 o7 o8 m_text m_size m_at m_begin m_token m_told m_read m_harbour m_now m_undone m_undos m_one m_two m_three m_chalks m_cb m_co m_trace m_kept) [.ref o0, .int p1]) (vp_Si (fun r' => r' = r)) 0 0 (fun _ => False) := tg_metI (by decide) (Nat.le_of_ble_eq_true rfl) (fun X hl0 C hE => vX5_count l D o0 o1 o2 o3 o4 o5 o6 o7 o8 m_text m_size m_at m_begin m_token m_told m_read m_harbour m_now m_undone m_undos m_one m_two m_three m_chalks m_cb m_co m_trace m_kept p1 X hl0 C r hs hE)
