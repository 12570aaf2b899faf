def fX5_takesAll_L2 (m_read : Nat → Int32) : Nat → (Nat → Int32) → Int32 → Option ((Nat → Int32) × Int32)
  | 0, _, _ => none
  | fuel + 1, m_harbour, n1 => if 25 ≤ n1 then (some (m_harbour, n1)) else (tg_ck n1 25 <| tg_nm (m_read (Int32.toNatClampNeg n1)) fun vv3 => tg_ck n1 25 <| tg_nm (upd m_harbour (Int32.toNatClampNeg n1) vv3) fun gg4 => tg_nm (n1 + 1) fun vv6 => fX5_takesAll_L2 m_read fuel gg4 vv6)
def fX5_takesAll_L28 : Nat → (Nat → Int32) → Int32 → Option ((Nat → Int32) × Int32)
  | 0, _, _ => none
  | fuel + 1, m_now, n1 => if 27 ≤ n1 then (some (m_now, n1)) else (tg_b1 (if n1 < 8 then (some (0 : Int32)) else (some ((-9) : Int32))) fun (vv12 : Int32) => tg_ck n1 27 <| tg_nm (upd m_now (Int32.toNatClampNeg n1) vv12) fun gg14 => tg_nm (n1 + 1) fun vv16 => fX5_takesAll_L28 fuel gg14 vv16)
def fX5_takesAll (m_read : Nat → Int32) (m_harbour : Nat → Int32) (m_now : Nat → Int32) (m_kept : Nat → Int32) : Option ((Nat → Int32) × (Nat → Int32) × Int32 × Int32 × (Nat → Int32)) := tg_b2 (fX5_takesAll_L2 m_read 400 m_harbour 0) fun vv7 vv8 => tg_b2 (fX5_takesAll_L28 400 m_now 0) fun vv18 vv19 => tg_nm (upd vv18 2 (-9)) fun gg21 => tg_nm (upd gg21 7 (-9)) fun gg22 => tg_nm (upd m_kept 0 0) fun gg23 => tg_nm (upd gg23 353 0) fun gg24 => some (vv7, gg22, 0, 0, gg24)
set_option maxHeartbeats 2000000 in
set_option maxRecDepth 20000 in
theorem vX5_takesAll_L2 (l : Launch) (D : tg_D) (o0 o1 o2 o3 o4 o5 o6 o7 o8 : Nat) (m_text : Nat → Int32) (m_size : Int32) (m_at : Int32) (m_begin : Int32) (m_token : Int32) (m_told : Int32) (m_read : Nat → Int32) (m_now : Nat → Int32) (m_undone : Nat → Int32) (m_undos : Int32) (m_one : Int32) (m_two : Int32) (m_three : Int32) (m_chalks : Int32) (m_cb : Nat → Int32) (m_co : Nat → Int32) (m_trace : Int64) (m_kept : Nat → Int32) (X : tg_X) (hl0 : tg_l X = l) (C : tg_C X D 2 cX5_takesAll RX5 0 0 0 0) (V : tg_V X) (o_m_harbour : Nat → Int32) (o_n1 : Int32) : ∀ (fuel : Nat) (m_harbour : Nat → Int32) (n1 : Int32), fX5_takesAll_L2 m_read fuel m_harbour n1 = some (o_m_harbour, o_n1) → tg_G X D 2 0 0 (tw_M D o0 o1 o2 o3 o4 o5 o6 o7 o8 m_text m_size m_at m_begin m_token m_told m_read o_m_harbour m_now m_undone m_undos m_one m_two m_three m_chalks m_cb m_co m_trace m_kept) [(0, .ref o0), (1, .int o_n1)] 26 [] → tg_G X D 2 0 0 (tw_M D o0 o1 o2 o3 o4 o5 o6 o7 o8 m_text m_size m_at m_begin m_token m_told m_read m_harbour m_now m_undone m_undos m_one m_two m_three m_chalks m_cb m_co m_trace m_kept) [(0, .ref o0), (1, .int n1)] 2 [] := by
  intro fuel
  induction fuel with
  | zero =>
    intro m_harbour n1 hs _
    rw [fX5_takesAll_L2] at hs
    cases hs
  | succ fuel ih =>
    intro m_harbour n1 hs J
    rw [fX5_takesAll_L2] at hs
    refine tg_iload_n C dX5_takesAll_2 rfl 1 rfl ?_
    refine tg_bipush (v := 25) C dX5_takesAll_3 (by decide) ?_
    refine tg_icmp_ge (tgt := 26) C dX5_takesAll_5 (by decide) (fun cc1 => ?_) (fun cc1 => ?_)
    · have hs := tg_t cc1 hs
      obtain ⟨rfl, rfl⟩ := tg_i2 hs
      exact J
    · have hs := tg_f cc1 hs
      refine tg_aload_n C dX5_takesAll_8 rfl 0 rfl ?_
      refine tg_get (v := .ref o3) C cfX5 0 rfl 7 (by decide) wm_712 rfl dX5_takesAll_9 ?_
      refine tg_iload_n C dX5_takesAll_12 rfl 1 rfl ?_
      refine tg_aload_n C dX5_takesAll_13 rfl 0 rfl ?_
      refine tg_get (v := .ref o2) C cfX5 0 rfl 6 (by decide) wm_711 rfl dX5_takesAll_14 ?_
      refine tg_iload_n C dX5_takesAll_17 rfl 1 rfl ?_
      obtain ⟨hh2, hs⟩ := tg_ck_e hs
      refine tg_iald C 2 0 rfl rfl hh2 dX5_takesAll_18 ?_
      obtain ⟨vv3, evv3, hs⟩ := tg_nm_e hs
      refine tg_topi evv3 ?_
      obtain ⟨hh5, hs⟩ := tg_ck_e hs
      obtain ⟨gg4, egg4, hs⟩ := tg_nm_e hs
      refine tg_iast (ws' := (tw_M D o0 o1 o2 o3 o4 o5 o6 o7 o8 m_text m_size m_at m_begin m_token m_told m_read gg4 m_now m_undone m_undos m_one m_two m_three m_chalks m_cb m_co m_trace m_kept)) C V 3 0 rfl rfl hh5 egg4 rfl dX5_takesAll_19 ?_
      obtain ⟨vv6, evv6, hs⟩ := tg_nm_e hs
      refine tg_iinc (v := vv6) (lv' := [(1, .int vv6), (0, .ref o0)]) C dX5_takesAll_20 1 rfl (by rw [evv6]; rfl) (by decide) rfl ?_
      refine tg_goto (tgt := 2) C dX5_takesAll_23 (by decide) ?_
      refine tg_lsub [1, 0] rfl ?_
      exact ih gg4 vv6 hs J
set_option maxHeartbeats 2000000 in
set_option maxRecDepth 20000 in
theorem vX5_takesAll_L28 (l : Launch) (D : tg_D) (o0 o1 o2 o3 o4 o5 o6 o7 o8 : Nat) (m_text : Nat → Int32) (m_size : Int32) (m_at : Int32) (m_begin : Int32) (m_token : Int32) (m_told : Int32) (m_read : Nat → Int32) (m_harbour : Nat → Int32) (m_undone : Nat → Int32) (m_undos : Int32) (m_one : Int32) (m_two : Int32) (m_three : Int32) (m_chalks : Int32) (m_cb : Nat → Int32) (m_co : Nat → Int32) (m_trace : Int64) (m_kept : Nat → Int32) (X : tg_X) (hl0 : tg_l X = l) (C : tg_C X D 2 cX5_takesAll RX5 0 0 0 0) (V : tg_V X) (o_m_now : Nat → Int32) (o_n1 : Int32) : ∀ (fuel : Nat) (m_now : Nat → Int32) (n1 : Int32), fX5_takesAll_L28 fuel m_now n1 = some (o_m_now, o_n1) → tg_G X D 2 0 0 (tw_M D o0 o1 o2 o3 o4 o5 o6 o7 o8 m_text m_size m_at m_begin m_token m_told m_read m_harbour o_m_now m_undone m_undos m_one m_two m_three m_chalks m_cb m_co m_trace m_kept) [(0, .ref o0), (1, .int o_n1)] 58 [] → tg_G X D 2 0 0 (tw_M D o0 o1 o2 o3 o4 o5 o6 o7 o8 m_text m_size m_at m_begin m_token m_told m_read m_harbour m_now m_undone m_undos m_one m_two m_three m_chalks m_cb m_co m_trace m_kept) [(0, .ref o0), (1, .int n1)] 28 [] := by
  intro fuel
  induction fuel with
  | zero =>
    intro m_now n1 hs _
    rw [fX5_takesAll_L28] at hs
    cases hs
  | succ fuel ih =>
    intro m_now n1 hs J
    rw [fX5_takesAll_L28] at hs
    refine tg_iload_n C dX5_takesAll_28 rfl 1 rfl ?_
    refine tg_bipush (v := 27) C dX5_takesAll_29 (by decide) ?_
    refine tg_icmp_ge (tgt := 58) C dX5_takesAll_31 (by decide) (fun cc10 => ?_) (fun cc10 => ?_)
    · have hs := tg_t cc10 hs
      obtain ⟨rfl, rfl⟩ := tg_i2 hs
      exact J
    · have hs := tg_f cc10 hs
      refine tg_aload_n C dX5_takesAll_34 rfl 0 rfl ?_
      refine tg_get (v := .ref o4) C cfX5 0 rfl 8 (by decide) wm_713 rfl dX5_takesAll_35 ?_
      refine tg_iload_n C dX5_takesAll_38 rfl 1 rfl ?_
      refine tg_iload_n C dX5_takesAll_39 rfl 1 rfl ?_
      refine tg_bipush (v := 8) C dX5_takesAll_40 (by decide) ?_
      obtain ⟨vv12, ee17, hs⟩ := tg_b1_e hs
      have JJ13 : tg_G X D 2 0 0 (tw_M D o0 o1 o2 o3 o4 o5 o6 o7 o8 m_text m_size m_at m_begin m_token m_told m_read m_harbour m_now m_undone m_undos m_one m_two m_three m_chalks m_cb m_co m_trace m_kept) [(0, .ref o0), (1, .int n1)] 51 [.int vv12, .int n1, .ref o4] := by
        obtain ⟨hh15, hs⟩ := tg_ck_e hs
        obtain ⟨gg14, egg14, hs⟩ := tg_nm_e hs
        refine tg_iast (ws' := (tw_M D o0 o1 o2 o3 o4 o5 o6 o7 o8 m_text m_size m_at m_begin m_token m_told m_read m_harbour gg14 m_undone m_undos m_one m_two m_three m_chalks m_cb m_co m_trace m_kept)) C V 4 0 rfl rfl hh15 egg14 rfl dX5_takesAll_51 ?_
        obtain ⟨vv16, evv16, hs⟩ := tg_nm_e hs
        refine tg_iinc (v := vv16) (lv' := [(1, .int vv16), (0, .ref o0)]) C dX5_takesAll_52 1 rfl (by rw [evv16]; rfl) (by decide) rfl ?_
        refine tg_goto (tgt := 28) C dX5_takesAll_55 (by decide) ?_
        refine tg_lsub [1, 0] rfl ?_
        exact ih gg14 vv16 hs J
      have hs := ee17
      clear ee17
      refine tg_icmp_lt (tgt := 50) C dX5_takesAll_42 (by decide) (fun cc11 => ?_) (fun cc11 => ?_)
      · have hs := tg_t cc11 hs
        refine tg_iconst (v := 0) C dX5_takesAll_50 (by decide) ?_
        obtain rfl := Option.some.inj hs
        exact JJ13
      · have hs := tg_f cc11 hs
        refine tg_bipush (v := (-9)) C dX5_takesAll_45 (by decide) ?_
        refine tg_goto (tgt := 51) C dX5_takesAll_47 (by decide) ?_
        obtain rfl := Option.some.inj hs
        exact JJ13
set_option maxHeartbeats 2000000 in
set_option maxRecDepth 20000 in
theorem vX5_takesAll (l : Launch) (D : tg_D) (o0 o1 o2 o3 o4 o5 o6 o7 o8 : Nat) (m_text : Nat → Int32) (m_size : Int32) (m_at : Int32) (m_begin : Int32) (m_token : Int32) (m_told : Int32) (m_read : Nat → Int32) (m_harbour : Nat → Int32) (m_now : Nat → Int32) (m_undone : Nat → Int32) (m_undos : Int32) (m_one : Int32) (m_two : Int32) (m_three : Int32) (m_chalks : Int32) (m_cb : Nat → Int32) (m_co : Nat → Int32) (m_trace : Int64) (m_kept : Nat → Int32) (X : tg_X) (hl0 : tg_l X = l) (C : tg_C X D 2 cX5_takesAll RX5 0 0 0 0) (V : tg_V X) (q_m_harbour : Nat → Int32) (q_m_now : Nat → Int32) (q_m_undos : Int32) (q_m_chalks : Int32) (q_m_kept : Nat → Int32) (hs : fX5_takesAll m_read m_harbour m_now m_kept = some (q_m_harbour, q_m_now, q_m_undos, q_m_chalks, q_m_kept)) (hE : tg_Ev X D 0 0 cX5_takesAll (tw_M D o0 o1 o2 o3 o4 o5 o6 o7 o8 m_text m_size m_at m_begin m_token m_told m_read q_m_harbour q_m_now m_undone q_m_undos m_one m_two m_three q_m_chalks m_cb m_co m_trace q_m_kept)) : tg_G X D 2 0 0 (tw_M D o0 o1 o2 o3 o4 o5 o6 o7 o8 m_text m_size m_at m_begin m_token m_told m_read m_harbour m_now m_undone m_undos m_one m_two m_three m_chalks m_cb m_co m_trace m_kept) [(0, .ref o0)] 0 [] := by
  unfold fX5_takesAll at hs
  refine tg_iconst (v := 0) C dX5_takesAll_0 (by decide) ?_
  refine tg_istore_n (lv' := [(1, .int 0), (0, .ref o0)]) C dX5_takesAll_1 rfl (by decide) rfl ?_
  refine tg_lsub [1, 0] rfl ?_
  obtain ⟨vv7, vv8, ee9, hs⟩ := tg_b2_e hs
  refine vX5_takesAll_L2 l D o0 o1 o2 o3 o4 o5 o6 o7 o8 m_text m_size m_at m_begin m_token m_told m_read m_now m_undone m_undos m_one m_two m_three m_chalks m_cb m_co m_trace m_kept X hl0 C V vv7 vv8 400 m_harbour 0 ee9 ?_
  refine tg_iconst (v := 0) C dX5_takesAll_26 (by decide) ?_
  refine tg_istore_n (lv' := [(1, .int 0), (0, .ref o0)]) C dX5_takesAll_27 rfl (by decide) rfl ?_
  refine tg_lsub [1, 0] rfl ?_
  obtain ⟨vv18, vv19, ee20, hs⟩ := tg_b2_e hs
  refine vX5_takesAll_L28 l D o0 o1 o2 o3 o4 o5 o6 o7 o8 m_text m_size m_at m_begin m_token m_told m_read vv7 m_undone m_undos m_one m_two m_three m_chalks m_cb m_co m_trace m_kept X hl0 C V vv18 vv19 400 m_now 0 ee20 ?_
  refine tg_aload_n C dX5_takesAll_58 rfl 0 rfl ?_
  refine tg_get (v := .ref o4) C cfX5 0 rfl 8 (by decide) wm_713 rfl dX5_takesAll_59 ?_
  refine tg_iconst (v := 2) C dX5_takesAll_62 (by decide) ?_
  refine tg_bipush (v := (-9)) C dX5_takesAll_63 (by decide) ?_
  obtain ⟨gg21, egg21, hs⟩ := tg_nm_e hs
  refine tg_iast (ws' := (tw_M D o0 o1 o2 o3 o4 o5 o6 o7 o8 m_text m_size m_at m_begin m_token m_told m_read vv7 gg21 m_undone m_undos m_one m_two m_three m_chalks m_cb m_co m_trace m_kept)) C V 4 0 rfl rfl (tg_vin (by decide)) (by rw [egg21]; rfl) rfl dX5_takesAll_65 ?_
  refine tg_aload_n C dX5_takesAll_66 rfl 0 rfl ?_
  refine tg_get (v := .ref o4) C cfX5 0 rfl 8 (by decide) wm_713 rfl dX5_takesAll_67 ?_
  refine tg_bipush (v := 7) C dX5_takesAll_70 (by decide) ?_
  refine tg_bipush (v := (-9)) C dX5_takesAll_72 (by decide) ?_
  obtain ⟨gg22, egg22, hs⟩ := tg_nm_e hs
  refine tg_iast (ws' := (tw_M D o0 o1 o2 o3 o4 o5 o6 o7 o8 m_text m_size m_at m_begin m_token m_told m_read vv7 gg22 m_undone m_undos m_one m_two m_three m_chalks m_cb m_co m_trace m_kept)) C V 4 0 rfl rfl (tg_vin (by decide)) (by rw [egg22]; rfl) rfl dX5_takesAll_74 ?_
  refine tg_aload_n C dX5_takesAll_75 rfl 0 rfl ?_
  refine tg_iconst (v := 0) C dX5_takesAll_76 (by decide) ?_
  refine tg_put (ws' := (tw_M D o0 o1 o2 o3 o4 o5 o6 o7 o8 m_text m_size m_at m_begin m_token m_told m_read vv7 gg22 m_undone m_undos m_one m_two m_three 0 m_cb m_co m_trace m_kept)) C V cfX5 0 rfl 14 (by decide) wm_719 rfl rfl rfl (Nat.le_of_ble_eq_true rfl) rfl dX5_takesAll_77 ?_
  refine tg_aload_n C dX5_takesAll_80 rfl 0 rfl ?_
  refine tg_iconst (v := 0) C dX5_takesAll_81 (by decide) ?_
  refine tg_put (ws' := (tw_M D o0 o1 o2 o3 o4 o5 o6 o7 o8 m_text m_size m_at m_begin m_token m_told m_read vv7 gg22 m_undone 0 m_one m_two m_three 0 m_cb m_co m_trace m_kept)) C V cfX5 0 rfl 10 (by decide) wm_715 rfl rfl rfl (Nat.le_of_ble_eq_true rfl) rfl dX5_takesAll_82 ?_
  refine tg_aload_n C dX5_takesAll_85 rfl 0 rfl ?_
  refine tg_get (v := .ref o8) C cfX5 0 rfl 18 (by decide) wm_723 rfl dX5_takesAll_86 ?_
  refine tg_iconst (v := 0) C dX5_takesAll_89 (by decide) ?_
  refine tg_iconst (v := 0) C dX5_takesAll_90 (by decide) ?_
  obtain ⟨gg23, egg23, hs⟩ := tg_nm_e hs
  refine tg_iast (ws' := (tw_M D o0 o1 o2 o3 o4 o5 o6 o7 o8 m_text m_size m_at m_begin m_token m_told m_read vv7 gg22 m_undone 0 m_one m_two m_three 0 m_cb m_co m_trace gg23)) C V 8 0 rfl rfl (tg_vin (by decide)) (by rw [egg23]; rfl) rfl dX5_takesAll_91 ?_
  refine tg_aload_n C dX5_takesAll_92 rfl 0 rfl ?_
  refine tg_get (v := .ref o8) C cfX5 0 rfl 18 (by decide) wm_723 rfl dX5_takesAll_93 ?_
  refine tg_sipush (v := 353) C dX5_takesAll_96 (by decide) ?_
  refine tg_iconst (v := 0) C dX5_takesAll_99 (by decide) ?_
  obtain ⟨gg24, egg24, hs⟩ := tg_nm_e hs
  refine tg_iast (ws' := (tw_M D o0 o1 o2 o3 o4 o5 o6 o7 o8 m_text m_size m_at m_begin m_token m_told m_read vv7 gg22 m_undone 0 m_one m_two m_three 0 m_cb m_co m_trace gg24)) C V 8 0 rfl rfl (tg_vin (by decide)) (by rw [egg24]; rfl) rfl dX5_takesAll_100 ?_
  obtain ⟨rfl, rfl, rfl, rfl, rfl⟩ := tg_i5 hs
  exact tg_vret hE dX5_takesAll_101
set_option maxHeartbeats 2000000 in
set_option maxRecDepth 20000 in
theorem kX5_takesAll (l : Launch) (D : tg_D) (o0 o1 o2 o3 o4 o5 o6 o7 o8 : Nat) (m_text : Nat → Int32) (m_size : Int32) (m_at : Int32) (m_begin : Int32) (m_token : Int32) (m_told : Int32) (m_read : Nat → Int32) (m_harbour : Nat → Int32) (m_now : Nat → Int32) (m_undone : Nat → Int32) (m_undos : Int32) (m_one : Int32) (m_two : Int32) (m_three : Int32) (m_chalks : Int32) (m_cb : Nat → Int32) (m_co : Nat → Int32) (m_trace : Int64) (m_kept : Nat → Int32) (q_m_harbour : Nat → Int32) (q_m_now : Nat → Int32) (q_m_undos : Int32) (q_m_chalks : Int32) (q_m_kept : Nat → Int32) (hs : fX5_takesAll m_read m_harbour m_now m_kept = some (q_m_harbour, q_m_now, q_m_undos, q_m_chalks, q_m_kept)) : Met l yX5_takesAll [Cond.code yX5_takesAll cX5_takesAll 2 none] (tg_rm 0 0) (tg_Pre D (tw_M D o0 o1 o2 o3 o4 o5 o6 o7 o8 m_text m_size m_at m_begin m_token m_told m_read m_harbour m_now m_undone m_undos m_one m_two m_three m_chalks m_cb m_co m_trace m_kept) [.ref o0]) (tg_Qe none D (tw_M D o0 o1 o2 o3 o4 o5 o6 o7 o8 m_text m_size m_at m_begin m_token m_told m_read q_m_harbour q_m_now m_undone q_m_undos m_one m_two m_three q_m_chalks m_cb m_co m_trace q_m_kept) (tg_Ad (tw_M D o0 o1 o2 o3 o4 o5 o6 o7 o8 m_text m_size m_at m_begin m_token m_told m_read m_harbour m_now m_undone m_undos m_one m_two m_three m_chalks m_cb m_co m_trace m_kept))) 0 0 (tg_Ad (tw_M D o0 o1 o2 o3 o4 o5 o6 o7 o8 m_text m_size m_at m_begin m_token m_told m_read m_harbour m_now m_undone m_undos m_one m_two m_three m_chalks m_cb m_co m_trace m_kept)) := tg_metEv (by decide) (Nat.le_of_ble_eq_true rfl) (fun X hl0 C V hE => vX5_takesAll l D o0 o1 o2 o3 o4 o5 o6 o7 o8 m_text m_size m_at m_begin m_token m_told m_read m_harbour m_now m_undone m_undos m_one m_two m_three m_chalks m_cb m_co m_trace m_kept X hl0 C V q_m_harbour q_m_now q_m_undos q_m_chalks q_m_kept hs hE)
def fX5_harbour_L15 (m_text : Nat → Int32) (m_size : Int32) (m_harbour : Nat → Int32) (m_now : Nat → Int32) (m_undos : Int32) (m_chalks : Int32) (m_kept : Nat → Int32) : Nat → Int32 → Int32 → Int32 → Int32 → (Nat → Int32) → Int32 → Option (Int32 × Int32 × Int32 × Int32 × Int32 × Int32 × (Nat → Int32) × (Nat → Int32) × (Nat → Int32) × Int32 × Int32 × (Nat → Int32))
  | 0, _, _, _, _, _, _ => none
  | fuel + 1, m_at, m_begin, m_token, m_told, m_read, n1 => if m_token = 0 then (tg_b5 (fX5_takesAll m_read m_harbour m_now m_kept) fun gg9 gg10 vv11 vv12 gg13 => some (n1, 0, m_at, m_begin, m_token, m_told, m_read, gg9, gg10, vv11, vv12, gg13)) else (tg_b6 (fX5_readItem m_text m_size m_at m_begin m_token m_told m_read) fun rr15 vv16 vv17 vv18 vv19 gg20 => if ¬ rr15 = 0 then (tg_nm (n1 + 1) fun vv23 => tg_b4 (fX5_reads m_text m_size vv16 vv19) fun vv24 vv25 vv26 vv27 => fX5_harbour_L15 m_text m_size m_harbour m_now m_undos m_chalks m_kept fuel vv24 vv25 vv26 vv27 gg20 vv23) else (some ((-10) - vv17, m_size, vv16, vv17, vv18, vv19, gg20, m_harbour, m_now, m_undos, m_chalks, m_kept)))
def fX5_harbour (m_text : Nat → Int32) (m_size : Int32) (m_told : Int32) (m_read : Nat → Int32) (m_harbour : Nat → Int32) (m_now : Nat → Int32) (m_undos : Int32) (m_chalks : Int32) (m_kept : Nat → Int32) : Option (Int32 × Int32 × Int32 × Int32 × Int32 × Int32 × (Nat → Int32) × (Nat → Int32) × (Nat → Int32) × Int32 × Int32 × (Nat → Int32)) := tg_b1 (fX5_plain m_read) fun gg1 => tg_b4 (fX5_reads m_text m_size 0 m_told) fun vv3 vv4 vv5 vv6 => fX5_harbour_L15 m_text m_size m_harbour m_now m_undos m_chalks m_kept 400 vv3 vv4 vv5 vv6 gg1 0
set_option maxHeartbeats 2000000 in
set_option maxRecDepth 20000 in
theorem vX5_harbour_L15 (l : Launch) (D : tg_D) (o0 o1 o2 o3 o4 o5 o6 o7 o8 : Nat) (m_text : Nat → Int32) (m_size : Int32) (m_harbour : Nat → Int32) (m_now : Nat → Int32) (m_undone : Nat → Int32) (m_undos : Int32) (m_one : Int32) (m_two : Int32) (m_three : Int32) (m_chalks : Int32) (m_cb : Nat → Int32) (m_co : Nat → Int32) (m_trace : Int64) (m_kept : Nat → Int32) (X : tg_X) (hl0 : tg_l X = l) (C : tg_C X D 2 cX5_harbour RX5 7 152 0 0) (V : tg_V X) (r : Int32) (q_m_size : Int32) (q_m_at : Int32) (q_m_begin : Int32) (q_m_token : Int32) (q_m_told : Int32) (q_m_read : Nat → Int32) (q_m_harbour : Nat → Int32) (q_m_now : Nat → Int32) (q_m_undos : Int32) (q_m_chalks : Int32) (q_m_kept : Nat → Int32) (hE : tg_Ei X D 0 0 cX5_harbour .int r (tw_M D o0 o1 o2 o3 o4 o5 o6 o7 o8 m_text q_m_size q_m_at q_m_begin q_m_token q_m_told q_m_read q_m_harbour q_m_now m_undone q_m_undos m_one m_two m_three q_m_chalks m_cb m_co m_trace q_m_kept)) : ∀ (fuel : Nat) (m_at : Int32) (m_begin : Int32) (m_token : Int32) (m_told : Int32) (m_read : Nat → Int32) (n1 : Int32), fX5_harbour_L15 m_text m_size m_harbour m_now m_undos m_chalks m_kept fuel m_at m_begin m_token m_told m_read n1 = some (r, q_m_size, q_m_at, q_m_begin, q_m_token, q_m_told, q_m_read, q_m_harbour, q_m_now, q_m_undos, q_m_chalks, q_m_kept) → tg_G X D 2 0 0 (tw_M D o0 o1 o2 o3 o4 o5 o6 o7 o8 m_text m_size m_at m_begin m_token m_told m_read m_harbour m_now m_undone m_undos m_one m_two m_three m_chalks m_cb m_co m_trace m_kept) [(0, .ref o0), (1, .int n1)] 15 [] := by
  intro fuel
  induction fuel with
  | zero =>
    intro m_at m_begin m_token m_told m_read n1 hs
    rw [fX5_harbour_L15] at hs
    cases hs
  | succ fuel ih =>
    intro m_at m_begin m_token m_told m_read n1 hs
    rw [fX5_harbour_L15] at hs
    refine tg_aload_n C dX5_harbour_15 rfl 0 rfl ?_
    refine tg_get (v := .int m_token) C cfX5 0 rfl 4 (by decide) wm_709 rfl dX5_harbour_16 ?_
    refine tg_if_eq (tgt := 47) C dX5_harbour_19 (by decide) (fun cc8 => ?_) (fun cc8 => ?_)
    · have hs := tg_t cc8 hs
      refine tg_aload_n C dX5_harbour_47 rfl 0 rfl ?_
      refine tg_iconst (v := 0) C dX5_harbour_48 (by decide) ?_
      refine tg_put (ws' := (tw_M D o0 o1 o2 o3 o4 o5 o6 o7 o8 m_text 0 m_at m_begin m_token m_told m_read m_harbour m_now m_undone m_undos m_one m_two m_three m_chalks m_cb m_co m_trace m_kept)) C V cfX5 0 rfl 1 (by decide) wm_706 rfl rfl rfl (Nat.le_of_ble_eq_true rfl) rfl dX5_harbour_49 ?_
      refine tg_aload_n C dX5_harbour_52 rfl 0 rfl ?_
      obtain ⟨gg9, gg10, vv11, vv12, gg13, ee14, hs⟩ := tg_b5_e hs
      refine tg_eVs (ws' := (tw_M D o0 o1 o2 o3 o4 o5 o6 o7 o8 m_text 0 m_at m_begin m_token m_told m_read gg9 gg10 m_undone vv11 m_one m_two m_three vv12 m_cb m_co m_trace gg13)) (As := []) (rest := []) C V hl0 (kX5_takesAll l D o0 o1 o2 o3 o4 o5 o6 o7 o8 m_text 0 m_at m_begin m_token m_told m_read m_harbour m_now m_undone m_undos m_one m_two m_three m_chalks m_cb m_co m_trace m_kept gg9 gg10 vv11 vv12 gg13 ee14) wm_701 meX5_takesAll (by decide) rfl rfl rfl rfl (Nat.le_of_ble_eq_true rfl) rfl dX5_harbour_53 ?_
      refine tg_iload_n C dX5_harbour_56 rfl 1 rfl ?_
      obtain ⟨rfl, rfl, rfl, rfl, rfl, rfl, rfl, rfl, rfl, rfl, rfl, rfl⟩ := tg_i12 hs
      exact tg_iret hE rfl dX5_harbour_57
    · have hs := tg_f cc8 hs
      refine tg_aload_n C dX5_harbour_22 rfl 0 rfl ?_
      obtain ⟨rr15, vv16, vv17, vv18, vv19, gg20, ee21, hs⟩ := tg_b6_e hs
      refine tg_eVs (ws' := (tw_M D o0 o1 o2 o3 o4 o5 o6 o7 o8 m_text m_size vv16 vv17 vv18 vv19 gg20 m_harbour m_now m_undone m_undos m_one m_two m_three m_chalks m_cb m_co m_trace m_kept)) (As := []) (rest := []) C V hl0 (kX5_readItem l D o0 o1 o2 o3 o4 o5 o6 o7 o8 m_text m_size m_at m_begin m_token m_told m_read m_harbour m_now m_undone m_undos m_one m_two m_three m_chalks m_cb m_co m_trace m_kept rr15 vv16 vv17 vv18 vv19 gg20 ee21) wm_801 meX5_readItem (by decide) rfl rfl rfl rfl (Nat.le_of_ble_eq_true rfl) rfl dX5_harbour_23 ?_
      refine tg_if_ne (tgt := 37) C dX5_harbour_26 (by decide) (fun cc22 => ?_) (fun cc22 => ?_)
      · have hs := tg_t cc22 hs
        obtain ⟨vv23, evv23, hs⟩ := tg_nm_e hs
        refine tg_iinc (v := vv23) (lv' := [(1, .int vv23), (0, .ref o0)]) C dX5_harbour_37 1 rfl (by rw [evv23]; rfl) (by decide) rfl ?_
        refine tg_aload_n C dX5_harbour_40 rfl 1 rfl ?_
        obtain ⟨vv24, vv25, vv26, vv27, ee28, hs⟩ := tg_b4_e hs
        refine tg_eVs (ws' := (tw_M D o0 o1 o2 o3 o4 o5 o6 o7 o8 m_text m_size vv24 vv25 vv26 vv27 gg20 m_harbour m_now m_undone m_undos m_one m_two m_three m_chalks m_cb m_co m_trace m_kept)) (As := []) (rest := []) C V hl0 (kX5_reads l D o0 o1 o2 o3 o4 o5 o6 o7 o8 m_text m_size vv16 vv17 vv18 vv19 gg20 m_harbour m_now m_undone m_undos m_one m_two m_three m_chalks m_cb m_co m_trace m_kept vv24 vv25 vv26 vv27 ee28) wm_779 meX5_reads (by decide) rfl rfl rfl rfl (Nat.le_of_ble_eq_true rfl) rfl dX5_harbour_41 ?_
        refine tg_goto (tgt := 15) C dX5_harbour_44 (by decide) ?_
        refine tg_lsub [1, 0] rfl ?_
        exact ih vv24 vv25 vv26 vv27 gg20 vv23 hs
      · have hs := tg_nf cc22 hs
        refine tg_bipush (v := (-10)) C dX5_harbour_29 (by decide) ?_
        refine tg_aload_n C dX5_harbour_31 rfl 0 rfl ?_
        refine tg_get (v := .int vv17) C cfX5 0 rfl 3 (by decide) wm_708 rfl dX5_harbour_32 ?_
        refine tg_isub C dX5_harbour_35 ?_
        obtain ⟨rfl, rfl, rfl, rfl, rfl, rfl, rfl, rfl, rfl, rfl, rfl, rfl⟩ := tg_i12 hs
        exact tg_iret hE rfl dX5_harbour_36
set_option maxHeartbeats 2000000 in
set_option maxRecDepth 20000 in
theorem vX5_harbour (l : Launch) (D : tg_D) (o0 o1 o2 o3 o4 o5 o6 o7 o8 : Nat) (m_text : Nat → Int32) (m_size : Int32) (m_at : Int32) (m_begin : Int32) (m_token : Int32) (m_told : Int32) (m_read : Nat → Int32) (m_harbour : Nat → Int32) (m_now : Nat → Int32) (m_undone : Nat → Int32) (m_undos : Int32) (m_one : Int32) (m_two : Int32) (m_three : Int32) (m_chalks : Int32) (m_cb : Nat → Int32) (m_co : Nat → Int32) (m_trace : Int64) (m_kept : Nat → Int32) (X : tg_X) (hl0 : tg_l X = l) (C : tg_C X D 2 cX5_harbour RX5 7 152 0 0) (V : tg_V X) (r : Int32) (q_m_size : Int32) (q_m_at : Int32) (q_m_begin : Int32) (q_m_token : Int32) (q_m_told : Int32) (q_m_read : Nat → Int32) (q_m_harbour : Nat → Int32) (q_m_now : Nat → Int32) (q_m_undos : Int32) (q_m_chalks : Int32) (q_m_kept : Nat → Int32) (hs : fX5_harbour m_text m_size m_told m_read m_harbour m_now m_undos m_chalks m_kept = some (r, q_m_size, q_m_at, q_m_begin, q_m_token, q_m_told, q_m_read, q_m_harbour, q_m_now, q_m_undos, q_m_chalks, q_m_kept)) (hE : tg_Ei X D 0 0 cX5_harbour .int r (tw_M D o0 o1 o2 o3 o4 o5 o6 o7 o8 m_text q_m_size q_m_at q_m_begin q_m_token q_m_told q_m_read q_m_harbour q_m_now m_undone q_m_undos m_one m_two m_three q_m_chalks m_cb m_co m_trace q_m_kept)) : tg_G X D 2 0 0 (tw_M D o0 o1 o2 o3 o4 o5 o6 o7 o8 m_text m_size m_at m_begin m_token m_told m_read m_harbour m_now m_undone m_undos m_one m_two m_three m_chalks m_cb m_co m_trace m_kept) [(0, .ref o0)] 0 [] := by
  unfold fX5_harbour at hs
  refine tg_aload_n C dX5_harbour_0 rfl 0 rfl ?_
  obtain ⟨gg1, ee2, hs⟩ := tg_b1_e hs
  refine tg_eVs (ws' := (tw_M D o0 o1 o2 o3 o4 o5 o6 o7 o8 m_text m_size m_at m_begin m_token m_told gg1 m_harbour m_now m_undone m_undos m_one m_two m_three m_chalks m_cb m_co m_trace m_kept)) (As := []) (rest := []) C V hl0 (kX5_plain l D o0 o1 o2 o3 o4 o5 o6 o7 o8 m_text m_size m_at m_begin m_token m_told m_read m_harbour m_now m_undone m_undos m_one m_two m_three m_chalks m_cb m_co m_trace m_kept gg1 ee2) wm_697 meX5_plain (by decide) rfl rfl rfl rfl (Nat.le_of_ble_eq_true rfl) rfl dX5_harbour_1 ?_
  refine tg_aload_n C dX5_harbour_4 rfl 0 rfl ?_
  refine tg_iconst (v := 0) C dX5_harbour_5 (by decide) ?_
  refine tg_put (ws' := (tw_M D o0 o1 o2 o3 o4 o5 o6 o7 o8 m_text m_size 0 m_begin m_token m_told gg1 m_harbour m_now m_undone m_undos m_one m_two m_three m_chalks m_cb m_co m_trace m_kept)) C V cfX5 0 rfl 2 (by decide) wm_707 rfl rfl rfl (Nat.le_of_ble_eq_true rfl) rfl dX5_harbour_6 ?_
  refine tg_iconst (v := 0) C dX5_harbour_9 (by decide) ?_
  refine tg_istore_n (lv' := [(1, .int 0), (0, .ref o0)]) C dX5_harbour_10 rfl (by decide) rfl ?_
  refine tg_aload_n C dX5_harbour_11 rfl 1 rfl ?_
  obtain ⟨vv3, vv4, vv5, vv6, ee7, hs⟩ := tg_b4_e hs
  refine tg_eVs (ws' := (tw_M D o0 o1 o2 o3 o4 o5 o6 o7 o8 m_text m_size vv3 vv4 vv5 vv6 gg1 m_harbour m_now m_undone m_undos m_one m_two m_three m_chalks m_cb m_co m_trace m_kept)) (As := []) (rest := []) C V hl0 (kX5_reads l D o0 o1 o2 o3 o4 o5 o6 o7 o8 m_text m_size 0 m_begin m_token m_told gg1 m_harbour m_now m_undone m_undos m_one m_two m_three m_chalks m_cb m_co m_trace m_kept vv3 vv4 vv5 vv6 ee7) wm_779 meX5_reads (by decide) rfl rfl rfl rfl (Nat.le_of_ble_eq_true rfl) rfl dX5_harbour_12 ?_
  refine tg_lsub [1, 0] rfl ?_
  exact vX5_harbour_L15 l D o0 o1 o2 o3 o4 o5 o6 o7 o8 m_text m_size m_harbour m_now m_undone m_undos m_one m_two m_three m_chalks m_cb m_co m_trace m_kept X hl0 C V r q_m_size q_m_at q_m_begin q_m_token q_m_told q_m_read q_m_harbour q_m_now q_m_undos q_m_chalks q_m_kept hE 400 vv3 vv4 vv5 vv6 gg1 0 hs
set_option maxHeartbeats 2000000 in
set_option maxRecDepth 20000 in
theorem kX5_harbour (l : Launch) (D : tg_D) (o0 o1 o2 o3 o4 o5 o6 o7 o8 : Nat) (m_text : Nat → Int32) (m_size : Int32) (m_at : Int32) (m_begin : Int32) (m_token : Int32) (m_told : Int32) (m_read : Nat → Int32) (m_harbour : Nat → Int32) (m_now : Nat → Int32) (m_undone : Nat → Int32) (m_undos : Int32) (m_one : Int32) (m_two : Int32) (m_three : Int32) (m_chalks : Int32) (m_cb : Nat → Int32) (m_co : Nat → Int32) (m_trace : Int64) (m_kept : Nat → Int32) (r : Int32) (q_m_size : Int32) (q_m_at : Int32) (q_m_begin : Int32) (q_m_token : Int32) (q_m_told : Int32) (q_m_read : Nat → Int32) (q_m_harbour : Nat → Int32) (q_m_now : Nat → Int32) (q_m_undos : Int32) (q_m_chalks : Int32) (q_m_kept : Nat → Int32) (hs : fX5_harbour m_text m_size m_told m_read m_harbour m_now m_undos m_chalks m_kept = some (r, q_m_size, q_m_at, q_m_begin, q_m_token, q_m_told, q_m_read, q_m_harbour, q_m_now, q_m_undos, q_m_chalks, q_m_kept)) : Met l yX5_harbour [Cond.code yX5_harbour cX5_harbour 2 (some .int)] (tg_rm 7 152) (tg_Pre D (tw_M D o0 o1 o2 o3 o4 o5 o6 o7 o8 m_text m_size m_at m_begin m_token m_told m_read m_harbour m_now m_undone m_undos m_one m_two m_three m_chalks m_cb m_co m_trace m_kept) [.ref o0]) (tg_Qe (some (.int r)) D (tw_M D o0 o1 o2 o3 o4 o5 o6 o7 o8 m_text q_m_size q_m_at q_m_begin q_m_token q_m_told q_m_read q_m_harbour q_m_now m_undone q_m_undos m_one m_two m_three q_m_chalks m_cb m_co m_trace q_m_kept) (tg_Ad (tw_M D o0 o1 o2 o3 o4 o5 o6 o7 o8 m_text m_size m_at m_begin m_token m_told m_read m_harbour m_now m_undone m_undos m_one m_two m_three m_chalks m_cb m_co m_trace m_kept))) 0 0 (tg_Ad (tw_M D o0 o1 o2 o3 o4 o5 o6 o7 o8 m_text m_size m_at m_begin m_token m_told m_read m_harbour m_now m_undone m_undos m_one m_two m_three m_chalks m_cb m_co m_trace m_kept)) := tg_metEi (by decide) (Nat.le_of_ble_eq_true rfl) (fun X hl0 C V hE => vX5_harbour l D o0 o1 o2 o3 o4 o5 o6 o7 o8 m_text m_size m_at m_begin m_token m_told m_read m_harbour m_now m_undone m_undos m_one m_two m_three m_chalks m_cb m_co m_trace m_kept X hl0 C V r q_m_size q_m_at q_m_begin q_m_token q_m_told q_m_read q_m_harbour q_m_now q_m_undos q_m_chalks q_m_kept hs hE)
def fX5_isBerth (m_harbour : Nat → Int32) (p1 : Int32) : Option (Int32) := tg_b1 (fX5_in (Int32.toInt64 p1) 1 (Int32.toInt64 (m_harbour 0))) fun rr1 => tg_bz rr1 <| some rr1
set_option maxHeartbeats 2000000 in
set_option maxRecDepth 20000 in
theorem vX5_isBerth (l : Launch) (D : tg_D) (o0 o1 o2 o3 o4 o5 o6 o7 o8 : Nat) (m_text : Nat → Int32) (m_size : Int32) (m_at : Int32) (m_begin : Int32) (m_token : Int32) (m_told : Int32) (m_read : Nat → Int32) (m_harbour : Nat → Int32) (m_now : Nat → Int32) (m_undone : Nat → Int32) (m_undos : Int32) (m_one : Int32) (m_two : Int32) (m_three : Int32) (m_chalks : Int32) (m_cb : Nat → Int32) (m_co : Nat → Int32) (m_trace : Int64) (m_kept : Nat → Int32) (p1 : Int32) (X : tg_X) (hl0 : tg_l X = l) (C : tg_C X D 2 cX5_isBerth RX5 1 25 0 0) (r : Int32) (hs : fX5_isBerth m_harbour p1 = some r) (hE : tg_Ei X D 0 0 cX5_isBerth .boolean r (tw_M D o0 o1 o2 o3 o4 o5 o6 o7 o8 m_text m_size m_at m_begin m_token m_told m_read m_harbour m_now m_undone m_undos m_one m_two m_three m_chalks m_cb m_co m_trace m_kept)) : tg_G X D 2 0 0 (tw_M D o0 o1 o2 o3 o4 o5 o6 o7 o8 m_text m_size m_at m_begin m_token m_told m_read m_harbour m_now m_undone m_undos m_one m_two m_three m_chalks m_cb m_co m_trace m_kept) [(0, .ref o0), (1, .int p1)] 0 [] := by
  unfold fX5_isBerth at hs
  refine tg_iload_n C dX5_isBerth_0 rfl 1 rfl ?_
  refine tg_i2l C dX5_isBerth_1 ?_
  refine tg_lconst (v := 1) C dX5_isBerth_2 (by decide) ?_
  refine tg_aload_n C dX5_isBerth_3 rfl 0 rfl ?_
  refine tg_get (v := .ref o3) C cfX5 0 rfl 7 (by decide) wm_712 rfl dX5_isBerth_4 ?_
  refine tg_iconst (v := 0) C dX5_isBerth_7 (by decide) ?_
  refine tg_iald C 3 0 rfl rfl (tg_vin (by decide)) dX5_isBerth_8 ?_
  refine tg_topi (y := m_harbour 0) rfl ?_
  refine tg_i2l C dX5_isBerth_9 ?_
  obtain ⟨rr1, ee2, hs⟩ := tg_b1_e hs
  refine tg_pS (As := [.long (Int32.toInt64 p1), .long 1, .long (Int32.toInt64 (m_harbour 0))]) (rest := []) C hl0 (kX5_in l D (Int32.toInt64 p1) 1 (Int32.toInt64 (m_harbour 0)) rr1 ee2) wm_768 meX5_in (by decide) rfl rfl (Nat.le_of_ble_eq_true rfl) dX5_isBerth_10 ?_
  obtain ⟨hh3, hs⟩ := tg_bz_e hs
  obtain rfl := Option.some.inj hs
  exact tg_iret hE hh3 dX5_isBerth_13
set_option maxHeartbeats 2000000 in
set_option maxRecDepth 20000 in
theorem kX5_isBerth (l : Launch) (D : tg_D) (o0 o1 o2 o3 o4 o5 o6 o7 o8 : Nat) (m_text : Nat → Int32) (m_size : Int32) (m_at : Int32) (m_begin : Int32) (m_token : Int32) (m_told : Int32) (m_read : Nat → Int32) (m_harbour : Nat → Int32) (m_now : Nat → Int32) (m_undone : Nat → Int32) (m_undos : Int32) (m_one : Int32) (m_two : Int32) (m_three : Int32) (m_chalks : Int32) (m_cb : Nat → Int32) (m_co : Nat → Int32) (m_trace : Int64) (m_kept : Nat → Int32) (p1 : Int32) (r : Int32) (hs : fX5_isBerth m_harbour p1 = some r) : Met l yX5_isBerth [Cond.code yX5_isBerth cX5_isBerth 2 (some .boolean)] (tg_rm 1 25) (tg_Pre D (tw_M D o0 o1 o2 o3 o4 o5 o6 o7 o8 m_text m_size m_at m_begin m_token m_told m_read m_harbour m_now m_undone m_undos m_one m_two m_three m_chalks m_cb m_co m_trace m_kept) [.ref o0, .int p1]) (vp_Si (fun r' => r' = r)) 0 0 (fun _ => False) := tg_metI (by decide) (Nat.le_of_ble_eq_true rfl) (fun X hl0 C hE => vX5_isBerth l D o0 o1 o2 o3 o4 o5 o6 o7 o8 m_text m_size m_at m_begin m_token m_told m_read m_harbour m_now m_undone m_undos m_one m_two m_three m_chalks m_cb m_co m_trace m_kept p1 X hl0 C r hs hE)
def fX5_isDie (p0 : Int32) : Option (Int32) := tg_b1 (fX5_in (Int32.toInt64 p0) 0 2) fun rr1 => tg_bz rr1 <| some rr1
set_option maxHeartbeats 2000000 in
set_option maxRecDepth 20000 in
theorem vX5_isDie (l : Launch) (D : tg_D) (p0 : Int32) (X : tg_X) (hl0 : tg_l X = l) (C : tg_C X D 1 cX5_isDie RX5 1 25 0 0) (r : Int32) (hs : fX5_isDie p0 = some r) (hE : tg_Ei X D 0 0 cX5_isDie .boolean r []) : tg_G X D 1 0 0 [] [(0, .int p0)] 0 [] := by
  unfold fX5_isDie at hs
  refine tg_iload_n C dX5_isDie_0 rfl 0 rfl ?_
  refine tg_i2l C dX5_isDie_1 ?_
  refine tg_lconst (v := 0) C dX5_isDie_2 (by decide) ?_
  refine tg_ldc2 C wm_825 dX5_isDie_3 ?_
  obtain ⟨rr1, ee2, hs⟩ := tg_b1_e hs
  refine tg_pS (As := [.long (Int32.toInt64 p0), .long 0, .long 2]) (rest := []) C hl0 (kX5_in l D (Int32.toInt64 p0) 0 2 rr1 ee2) wm_768 meX5_in (by decide) rfl rfl (Nat.le_of_ble_eq_true rfl) dX5_isDie_6 ?_
  obtain ⟨hh3, hs⟩ := tg_bz_e hs
  obtain rfl := Option.some.inj hs
  exact tg_iret hE hh3 dX5_isDie_9
set_option maxHeartbeats 2000000 in
set_option maxRecDepth 20000 in
theorem kX5_isDie (l : Launch) (D : tg_D) (p0 : Int32) (r : Int32) (hs : fX5_isDie p0 = some r) : Met l yX5_isDie [Cond.code yX5_isDie cX5_isDie 1 (some .boolean)] (tg_rm 1 25) (tg_Pre D [] [.int p0]) (vp_Si (fun r' => r' = r)) 0 0 (fun _ => False) := tg_metI (by decide) (Nat.le_of_ble_eq_true rfl) (fun X hl0 C hE => vX5_isDie l D p0 X hl0 C r hs hE)
def fX5_faces (m_harbour : Nat → Int32) (p1 : Int32) : Option (Int32) := tg_ck (4 + (7 * p1)) 25 <| some (m_harbour (Int32.toNatClampNeg (4 + (7 * p1))))
set_option maxHeartbeats 2000000 in
set_option maxRecDepth 20000 in
theorem vX5_faces (l : Launch) (D : tg_D) (o0 o1 o2 o3 o4 o5 o6 o7 o8 : Nat) (m_text : Nat → Int32) (m_size : Int32) (m_at : Int32) (m_begin : Int32) (m_token : Int32) (m_told : Int32) (m_read : Nat → Int32) (m_harbour : Nat → Int32) (m_now : Nat → Int32) (m_undone : Nat → Int32) (m_undos : Int32) (m_one : Int32) (m_two : Int32) (m_three : Int32) (m_chalks : Int32) (m_cb : Nat → Int32) (m_co : Nat → Int32) (m_trace : Int64) (m_kept : Nat → Int32) (p1 : Int32) (X : tg_X) (hl0 : tg_l X = l) (C : tg_C X D 2 cX5_faces RX5 0 0 0 0) (r : Int32) (hs : fX5_faces m_harbour p1 = some r) (hE : tg_Ei X D 0 0 cX5_faces .int r (tw_M D o0 o1 o2 o3 o4 o5 o6 o7 o8 m_text m_size m_at m_begin m_token m_told m_read m_harbour m_now m_undone m_undos m_one m_two m_three m_chalks m_cb m_co m_trace m_kept)) : tg_G X D 2 0 0 (tw_M D o0 o1 o2 o3 o4 o5 o6 o7 o8 m_text m_size m_at m_begin m_token m_told m_read m_harbour m_now m_undone m_undos m_one m_two m_three m_chalks m_cb m_co m_trace m_kept) [(0, .ref o0), (1, .int p1)] 0 [] := by
  unfold fX5_faces at hs
  refine tg_aload_n C dX5_faces_0 rfl 0 rfl ?_
  refine tg_get (v := .ref o3) C cfX5 0 rfl 7 (by decide) wm_712 rfl dX5_faces_1 ?_
  refine tg_iconst (v := 4) C dX5_faces_4 (by decide) ?_
  refine tg_bipush (v := 7) C dX5_faces_5 (by decide) ?_
  refine tg_iload_n C dX5_faces_7 rfl 1 rfl ?_
  refine tg_imul C dX5_faces_8 ?_
  refine tg_iadd C dX5_faces_9 ?_
  obtain ⟨hh1, hs⟩ := tg_ck_e hs
  refine tg_iald C 3 0 rfl rfl hh1 dX5_faces_10 ?_
  obtain rfl := Option.some.inj hs
  exact tg_iret hE rfl dX5_faces_11
set_option maxHeartbeats 2000000 in
set_option maxRecDepth 20000 in
theorem kX5_faces (l : Launch) (D : tg_D) (o0 o1 o2 o3 o4 o5 o6 o7 o8 : Nat) (m_text : Nat → Int32) (m_size : Int32) (m_at : Int32) (m_begin : Int32) (m_token : Int32) (m_told : Int32) (m_read : Nat → Int32) (m_harbour : Nat → Int32) (m_now : Nat → Int32) (m_undone : Nat → Int32) (m_undos : Int32) (m_one : Int32) (m_two : Int32) (m_three : Int32) (m_chalks : Int32) (m_cb : Nat → Int32) (m_co : Nat → Int32) (m_trace : Int64) (m_kept : Nat → Int32) (p1 : Int32) (r : Int32) (hs : fX5_faces m_harbour p1 = some r) : Met l yX5_faces [Cond.code yX5_faces cX5_faces 2 (some .int)] (tg_rm 0 0) (tg_Pre D (tw_M D o0 o1 o2 o3 o4 o5 o6 o7 o8 m_text m_size m_at m_begin m_token m_told m_read m_harbour m_now m_undone m_undos m_one m_two m_three m_chalks m_cb m_co m_trace m_kept) [.ref o0, .int p1]) (vp_Si (fun r' => r' = r)) 0 0 (fun _ => False) := tg_metI (by decide) (Nat.le_of_ble_eq_true rfl) (fun X hl0 C hE => vX5_faces l D o0 o1 o2 o3 o4 o5 o6 o7 o8 m_text m_size m_at m_begin m_token m_told m_read m_harbour m_now m_undone m_undos m_one m_two m_three m_chalks m_cb m_co m_trace m_kept p1 X hl0 C r hs hE)
def fX5_face (m_harbour : Nat → Int32) (p1 : Int32) (p2 : Int32) : Option (Int32) := tg_ck (((4 + (7 * p1)) + 1) + p2) 25 <| some (m_harbour (Int32.toNatClampNeg (((4 + (7 * p1)) + 1) + p2)))
set_option maxHeartbeats 2000000 in
set_option maxRecDepth 20000 in
theorem vX5_face (l : Launch) (D : tg_D) (o0 o1 o2 o3 o4 o5 o6 o7 o8 : Nat) (m_text : Nat → Int32) (m_size : Int32) (m_at : Int32) (m_begin : Int32) (m_token : Int32) (m_told : Int32) (m_read : Nat → Int32) (m_harbour : Nat → Int32) (m_now : Nat → Int32) (m_undone : Nat → Int32) (m_undos : Int32) (m_one : Int32) (m_two : Int32) (m_three : Int32) (m_chalks : Int32) (m_cb : Nat → Int32) (m_co : Nat → Int32) (m_trace : Int64) (m_kept : Nat → Int32) (p1 : Int32) (p2 : Int32) (X : tg_X) (hl0 : tg_l X = l) (C : tg_C X D 3 cX5_face RX5 0 0 0 0) (r : Int32) (hs : fX5_face m_harbour p1 p2 = some r) (hE : tg_Ei X D 0 0 cX5_face .int r (tw_M D o0 o1 o2 o3 o4 o5 o6 o7 o8 m_text m_size m_at m_begin m_token m_told m_read m_harbour m_now m_undone m_undos m_one m_two m_three m_chalks m_cb m_co m_trace m_kept)) : tg_G X D 3 0 0 (tw_M D o0 o1 o2 o3 o4 o5 o6 o7 o8 m_text m_size m_at m_begin m_token m_told m_read m_harbour m_now m_undone m_undos m_one m_two m_three m_chalks m_cb m_co m_trace m_kept) [(0, .ref o0), (1, .int p1), (2, .int p2)] 0 [] := by
  unfold fX5_face at hs
  refine tg_aload_n C dX5_face_0 rfl 0 rfl ?_
  refine tg_get (v := .ref o3) C cfX5 0 rfl 7 (by decide) wm_712 rfl dX5_face_1 ?_
  refine tg_iconst (v := 4) C dX5_face_4 (by decide) ?_
  refine tg_bipush (v := 7) C dX5_face_5 (by decide) ?_
  refine tg_iload_n C dX5_face_7 rfl 1 rfl ?_
  refine tg_imul C dX5_face_8 ?_
  refine tg_iadd C dX5_face_9 ?_
  refine tg_iconst (v := 1) C dX5_face_10 (by decide) ?_
  refine tg_iadd C dX5_face_11 ?_
  refine tg_iload_n C dX5_face_12 rfl 2 rfl ?_
  refine tg_iadd C dX5_face_13 ?_
  obtain ⟨hh1, hs⟩ := tg_ck_e hs
  refine tg_iald C 3 0 rfl rfl hh1 dX5_face_14 ?_
  obtain rfl := Option.some.inj hs
  exact tg_iret hE rfl dX5_face_15
set_option maxHeartbeats 2000000 in
set_option maxRecDepth 20000 in
theorem kX5_face (l : Launch) (D : tg_D) (o0 o1 o2 o3 o4 o5 o6 o7 o8 : Nat) (m_text : Nat → Int32) (m_size : Int32) (m_at : Int32) (m_begin : Int32) (m_token : Int32) (m_told : Int32) (m_read : Nat → Int32) (m_harbour : Nat → Int32) (m_now : Nat → Int32) (m_undone : Nat → Int32) (m_undos : Int32) (m_one : Int32) (m_two : Int32) (m_three : Int32) (m_chalks : Int32) (m_cb : Nat → Int32) (m_co : Nat → Int32) (m_trace : Int64) (m_kept : Nat → Int32) (p1 : Int32) (p2 : Int32) (r : Int32) (hs : fX5_face m_harbour p1 p2 = some r) : Met l yX5_face [Cond.code yX5_face cX5_face 3 (some .int)] (tg_rm 0 0) (tg_Pre D (tw_M D o0 o1 o2 o3 o4 o5 o6 o7 o8 m_text m_size m_at m_begin m_token m_told m_read m_harbour m_now m_undone m_undos m_one m_two m_three m_chalks m_cb m_co m_trace m_kept) [.ref o0, .int p1, .int p2]) (vp_Si (fun r' => r' = r)) 0 0 (fun _ => False) := tg_metI (by decide) (Nat.le_of_ble_eq_true rfl) (fun X hl0 C hE => vX5_face l D o0 o1 o2 o3 o4 o5 o6 o7 o8 m_text m_size m_at m_begin m_token m_told m_read m_harbour m_now m_undone m_undos m_one m_two m_three m_chalks m_cb m_co m_trace m_kept p1 p2 X hl0 C r hs hE)
def fX5_isFace_L5 (m_harbour : Nat → Int32) (n1 : Int32) (n2 : Int32) : Nat → Int32 → Int32 → Option (Int32 × Int32)
  | 0, _, _ => none
  | fuel + 1, n3, n4 => tg_b1 (fX5_faces m_harbour n1) fun rr1 => if rr1 ≤ n4 then (some (n3, n4)) else (tg_b1 (if ¬ n3 = 0 then (some (1 : Int32)) else (tg_b1 (fX5_face m_harbour n1 n4) fun rr7 => if ¬ rr7 = n2 then (some (0 : Int32)) else (some (1 : Int32)))) fun (vv5 : Int32) => tg_nm (n4 + 1) fun vv10 => fX5_isFace_L5 m_harbour n1 n2 fuel vv5 vv10)
def fX5_isFace (m_harbour : Nat → Int32) (p1 : Int32) (p2 : Int32) : Option (Int32) := tg_b2 (fX5_isFace_L5 m_harbour p1 p2 400 0 0) fun vv12 vv13 => tg_bz vv12 <| some vv12
set_option maxHeartbeats 2000000 in
set_option maxRecDepth 20000 in
theorem vX5_isFace_L5 (l : Launch) (D : tg_D) (o0 o1 o2 o3 o4 o5 o6 o7 o8 : Nat) (m_text : Nat → Int32) (m_size : Int32) (m_at : Int32) (m_begin : Int32) (m_token : Int32) (m_told : Int32) (m_read : Nat → Int32) (m_harbour : Nat → Int32) (m_now : Nat → Int32) (m_undone : Nat → Int32) (m_undos : Int32) (m_one : Int32) (m_two : Int32) (m_three : Int32) (m_chalks : Int32) (m_cb : Nat → Int32) (m_co : Nat → Int32) (m_trace : Int64) (m_kept : Nat → Int32) (n1 : Int32) (n2 : Int32) (X : tg_X) (hl0 : tg_l X = l) (C : tg_C X D 5 cX5_isFace RX5 1 22 0 0) (o_n3 : Int32) (o_n4 : Int32) : ∀ (fuel : Nat) (n3 : Int32) (n4 : Int32), fX5_isFace_L5 m_harbour n1 n2 fuel n3 n4 = some (o_n3, o_n4) → tg_G X D 5 0 0 (tw_M D o0 o1 o2 o3 o4 o5 o6 o7 o8 m_text m_size m_at m_begin m_token m_told m_read m_harbour m_now m_undone m_undos m_one m_two m_three m_chalks m_cb m_co m_trace m_kept) [(0, .ref o0), (1, .int n1), (2, .int n2), (3, .int o_n3), (4, .int o_n4)] 42 [] → tg_G X D 5 0 0 (tw_M D o0 o1 o2 o3 o4 o5 o6 o7 o8 m_text m_size m_at m_begin m_token m_told m_read m_harbour m_now m_undone m_undos m_one m_two m_three m_chalks m_cb m_co m_trace m_kept) [(0, .ref o0), (1, .int n1), (2, .int n2), (3, .int n3), (4, .int n4)] 5 [] := by
  intro fuel
  induction fuel with
  | zero =>
    intro n3 n4 hs _
    rw [fX5_isFace_L5] at hs
    cases hs
  | succ fuel ih =>
    intro n3 n4 hs J
    rw [fX5_isFace_L5] at hs
    refine tg_iload C dX5_isFace_5 4 rfl ?_
    refine tg_aload_n C dX5_isFace_7 rfl 0 rfl ?_
    refine tg_iload_n C dX5_isFace_8 rfl 1 rfl ?_
    obtain ⟨rr1, ee2, hs⟩ := tg_b1_e hs
    refine tg_pVs (As := [.int n1]) (rest := [.int n4]) C hl0 (kX5_faces l D o0 o1 o2 o3 o4 o5 o6 o7 o8 m_text m_size m_at m_begin m_token m_told m_read m_harbour m_now m_undone m_undos m_one m_two m_three m_chalks m_cb m_co m_trace m_kept n1 rr1 ee2) wm_827 meX5_faces (by decide) rfl rfl rfl rfl (Nat.le_of_ble_eq_true rfl) dX5_isFace_9 ?_
    refine tg_icmp_ge (tgt := 42) C dX5_isFace_12 (by decide) (fun cc3 => ?_) (fun cc3 => ?_)
    · have hs := tg_t cc3 hs
      obtain ⟨rfl, rfl⟩ := tg_i2 hs
      exact J
    · have hs := tg_f cc3 hs
      refine tg_iload_n C dX5_isFace_15 rfl 3 rfl ?_
      obtain ⟨vv5, ee11, hs⟩ := tg_b1_e hs
      have JJ6 : tg_G X D 5 0 0 (tw_M D o0 o1 o2 o3 o4 o5 o6 o7 o8 m_text m_size m_at m_begin m_token m_told m_read m_harbour m_now m_undone m_undos m_one m_two m_three m_chalks m_cb m_co m_trace m_kept) [(0, .ref o0), (1, .int n1), (2, .int n2), (3, .int n3), (4, .int n4)] 35 [.int vv5] := by
        refine tg_istore_n (lv' := [(3, .int vv5), (0, .ref o0), (1, .int n1), (2, .int n2), (4, .int n4)]) C dX5_isFace_35 rfl (by decide) rfl ?_
        obtain ⟨vv10, evv10, hs⟩ := tg_nm_e hs
        refine tg_iinc (v := vv10) (lv' := [(4, .int vv10), (3, .int vv5), (0, .ref o0), (1, .int n1), (2, .int n2)]) C dX5_isFace_36 4 rfl (by rw [evv10]; rfl) (by decide) rfl ?_
        refine tg_goto (tgt := 5) C dX5_isFace_39 (by decide) ?_
        refine tg_lsub [2, 3, 4, 1, 0] rfl ?_
        exact ih vv5 vv10 hs J
      have hs := ee11
      clear ee11
      refine tg_if_ne (tgt := 30) C dX5_isFace_16 (by decide) (fun cc4 => ?_) (fun cc4 => ?_)
      · have hs := tg_t cc4 hs
        refine tg_iconst (v := 1) C dX5_isFace_30 (by decide) ?_
        refine tg_goto (tgt := 35) C dX5_isFace_31 (by decide) ?_
        obtain rfl := Option.some.inj hs
        exact JJ6
      · have hs := tg_nf cc4 hs
        refine tg_aload_n C dX5_isFace_19 rfl 0 rfl ?_
        refine tg_iload_n C dX5_isFace_20 rfl 1 rfl ?_
        refine tg_iload C dX5_isFace_21 4 rfl ?_
        obtain ⟨rr7, ee8, hs⟩ := tg_b1_e hs
        refine tg_pVs (As := [.int n1, .int n4]) (rest := []) C hl0 (kX5_face l D o0 o1 o2 o3 o4 o5 o6 o7 o8 m_text m_size m_at m_begin m_token m_told m_read m_harbour m_now m_undone m_undos m_one m_two m_three m_chalks m_cb m_co m_trace m_kept n1 n4 rr7 ee8) wm_831 meX5_face (by decide) rfl rfl rfl rfl (Nat.le_of_ble_eq_true rfl) dX5_isFace_23 ?_
        refine tg_iload_n C dX5_isFace_26 rfl 2 rfl ?_
        refine tg_icmp_ne (tgt := 34) C dX5_isFace_27 (by decide) (fun cc9 => ?_) (fun cc9 => ?_)
        · have hs := tg_t cc9 hs
          refine tg_iconst (v := 0) C dX5_isFace_34 (by decide) ?_
          obtain rfl := Option.some.inj hs
          exact JJ6
        · have hs := tg_nf cc9 hs
          refine tg_iconst (v := 1) C dX5_isFace_30 (by decide) ?_
          refine tg_goto (tgt := 35) C dX5_isFace_31 (by decide) ?_
          obtain rfl := Option.some.inj hs
          exact JJ6
set_option maxHeartbeats 2000000 in
set_option maxRecDepth 20000 in
theorem vX5_isFace (l : Launch) (D : tg_D) (o0 o1 o2 o3 o4 o5 o6 o7 o8 : Nat) (m_text : Nat → Int32) (m_size : Int32) (m_at : Int32) (m_begin : Int32) (m_token : Int32) (m_told : Int32) (m_read : Nat → Int32) (m_harbour : Nat → Int32) (m_now : Nat → Int32) (m_undone : Nat → Int32) (m_undos : Int32) (m_one : Int32) (m_two : Int32) (m_three : Int32) (m_chalks : Int32) (m_cb : Nat → Int32) (m_co : Nat → Int32) (m_trace : Int64) (m_kept : Nat → Int32) (p1 : Int32) (p2 : Int32) (X : tg_X) (hl0 : tg_l X = l) (C : tg_C X D 5 cX5_isFace RX5 1 22 0 0) (r : Int32) (hs : fX5_isFace m_harbour p1 p2 = some r) (hE : tg_Ei X D 0 0 cX5_isFace .boolean r (tw_M D o0 o1 o2 o3 o4 o5 o6 o7 o8 m_text m_size m_at m_begin m_token m_told m_read m_harbour m_now m_undone m_undos m_one m_two m_three m_chalks m_cb m_co m_trace m_kept)) : tg_G X D 5 0 0 (tw_M D o0 o1 o2 o3 o4 o5 o6 o7 o8 m_text m_size m_at m_begin m_token m_told m_read m_harbour m_now m_undone m_undos m_one m_two m_three m_chalks m_cb m_co m_trace m_kept) [(0, .ref o0), (1, .int p1), (2, .int p2)] 0 [] := by
  unfold fX5_isFace at hs
  refine tg_iconst (v := 0) C dX5_isFace_0 (by decide) ?_
  refine tg_istore_n (lv' := [(3, .int 0), (0, .ref o0), (1, .int p1), (2, .int p2)]) C dX5_isFace_1 rfl (by decide) rfl ?_
  refine tg_iconst (v := 0) C dX5_isFace_2 (by decide) ?_
  refine tg_istore (lv' := [(4, .int 0), (3, .int 0), (0, .ref o0), (1, .int p1), (2, .int p2)]) C dX5_isFace_3 (by decide) rfl ?_
  refine tg_lsub [2, 3, 4, 1, 0] rfl ?_
  obtain ⟨vv12, vv13, ee14, hs⟩ := tg_b2_e hs
  refine vX5_isFace_L5 l D o0 o1 o2 o3 o4 o5 o6 o7 o8 m_text m_size m_at m_begin m_token m_told m_read m_harbour m_now m_undone m_undos m_one m_two m_three m_chalks m_cb m_co m_trace m_kept p1 p2 X hl0 C vv12 vv13 400 0 0 ee14 ?_
  refine tg_iload_n C dX5_isFace_42 rfl 3 rfl ?_
  obtain ⟨hh15, hs⟩ := tg_bz_e hs
  obtain rfl := Option.some.inj hs
  exact tg_iret hE hh15 dX5_isFace_43
set_option maxHeartbeats 2000000 in
set_option maxRecDepth 20000 in
theorem kX5_isFace (l : Launch) (D : tg_D) (o0 o1 o2 o3 o4 o5 o6 o7 o8 : Nat) (m_text : Nat → Int32) (m_size : Int32) (m_at : Int32) (m_begin : Int32) (m_token : Int32) (m_told : Int32) (m_read : Nat → Int32) (m_harbour : Nat → Int32) (m_now : Nat → Int32) (m_undone : Nat → Int32) (m_undos : Int32) (m_one : Int32) (m_two : Int32) (m_three : Int32) (m_chalks : Int32) (m_cb : Nat → Int32) (m_co : Nat → Int32) (m_trace : Int64) (m_kept : Nat → Int32) (p1 : Int32) (p2 : Int32) (r : Int32) (hs : fX5_isFace m_harbour p1 p2 = some r) : Met l yX5_isFace [Cond.code yX5_isFace cX5_isFace 5 (some .boolean)] (tg_rm 1 22) (tg_Pre D (tw_M D o0 o1 o2 o3 o4 o5 o6 o7 o8 m_text m_size m_at m_begin m_token m_told m_read m_harbour m_now m_undone m_undos m_one m_two m_three m_chalks m_cb m_co m_trace m_kept) [.ref o0, .int p1, .int p2]) (vp_Si (fun r' => r' = r)) 0 0 (fun _ => False) := tg_metI (by decide) (Nat.le_of_ble_eq_true rfl) (fun X hl0 C hE => vX5_isFace l D o0 o1 o2 o3 o4 o5 o6 o7 o8 m_text m_size m_at m_begin m_token m_told m_read m_harbour m_now m_undone m_undos m_one m_two m_three m_chalks m_cb m_co m_trace m_kept p1 p2 X hl0 C r hs hE)
def fX5_throwsOf (m_harbour : Nat → Int32) : Option (Int32) := tg_b1 (fX5_faces m_harbour 0) fun rr1 => tg_b1 (fX5_faces m_harbour 1) fun rr3 => tg_b1 (fX5_faces m_harbour 2) fun rr5 => some ((rr1 * rr3) * rr5)
set_option maxHeartbeats 2000000 in
set_option maxRecDepth 20000 in
theorem vX5_throwsOf (l : Launch) (D : tg_D) (o0 o1 o2 o3 o4 o5 o6 o7 o8 : Nat) (m_text : Nat → Int32) (m_size : Int32) (m_at : Int32) (m_begin : Int32) (m_token : Int32) (m_told : Int32) (m_read : Nat → Int32) (m_harbour : Nat → Int32) (m_now : Nat → Int32) (m_undone : Nat → Int32) (m_undos : Int32) (m_one : Int32) (m_two : Int32) (m_three : Int32) (m_chalks : Int32) (m_cb : Nat → Int32) (m_co : Nat → Int32) (m_trace : Int64) (m_kept : Nat → Int32) (X : tg_X) (hl0 : tg_l X = l) (C : tg_C X D 1 cX5_throwsOf RX5 1 21 0 0) (r : Int32) (hs : fX5_throwsOf m_harbour = some r) (hE : tg_Ei X D 0 0 cX5_throwsOf .int r (tw_M D o0 o1 o2 o3 o4 o5 o6 o7 o8 m_text m_size m_at m_begin m_token m_told m_read m_harbour m_now m_undone m_undos m_one m_two m_three m_chalks m_cb m_co m_trace m_kept)) : tg_G X D 1 0 0 (tw_M D o0 o1 o2 o3 o4 o5 o6 o7 o8 m_text m_size m_at m_begin m_token m_told m_read m_harbour m_now m_undone m_undos m_one m_two m_three m_chalks m_cb m_co m_trace m_kept) [(0, .ref o0)] 0 [] := by
  unfold fX5_throwsOf at hs
  refine tg_aload_n C dX5_throwsOf_0 rfl 0 rfl ?_
  refine tg_iconst (v := 0) C dX5_throwsOf_1 (by decide) ?_
  obtain ⟨rr1, ee2, hs⟩ := tg_b1_e hs
  refine tg_pVs (As := [.int 0]) (rest := []) C hl0 (kX5_faces l D o0 o1 o2 o3 o4 o5 o6 o7 o8 m_text m_size m_at m_begin m_token m_told m_read m_harbour m_now m_undone m_undos m_one m_two m_three m_chalks m_cb m_co m_trace m_kept 0 rr1 ee2) wm_827 meX5_faces (by decide) rfl rfl rfl rfl (Nat.le_of_ble_eq_true rfl) dX5_throwsOf_2 ?_
  refine tg_aload_n C dX5_throwsOf_5 rfl 0 rfl ?_
  refine tg_iconst (v := 1) C dX5_throwsOf_6 (by decide) ?_
  obtain ⟨rr3, ee4, hs⟩ := tg_b1_e hs
  refine tg_pVs (As := [.int 1]) (rest := [.int rr1]) C hl0 (kX5_faces l D o0 o1 o2 o3 o4 o5 o6 o7 o8 m_text m_size m_at m_begin m_token m_told m_read m_harbour m_now m_undone m_undos m_one m_two m_three m_chalks m_cb m_co m_trace m_kept 1 rr3 ee4) wm_827 meX5_faces (by decide) rfl rfl rfl rfl (Nat.le_of_ble_eq_true rfl) dX5_throwsOf_7 ?_
  refine tg_imul C dX5_throwsOf_10 ?_
  refine tg_aload_n C dX5_throwsOf_11 rfl 0 rfl ?_
  refine tg_iconst (v := 2) C dX5_throwsOf_12 (by decide) ?_
  obtain ⟨rr5, ee6, hs⟩ := tg_b1_e hs
  refine tg_pVs (As := [.int 2]) (rest := [.int (rr1 * rr3)]) C hl0 (kX5_faces l D o0 o1 o2 o3 o4 o5 o6 o7 o8 m_text m_size m_at m_begin m_token m_told m_read m_harbour m_now m_undone m_undos m_one m_two m_three m_chalks m_cb m_co m_trace m_kept 2 rr5 ee6) wm_827 meX5_faces (by decide) rfl rfl rfl rfl (Nat.le_of_ble_eq_true rfl) dX5_throwsOf_13 ?_
  refine tg_imul C dX5_throwsOf_16 ?_
  obtain rfl := Option.some.inj hs
  exact tg_iret hE rfl dX5_throwsOf_17
set_option maxHeartbeats 2000000 in
set_option maxRecDepth 20000 in
theorem kX5_throwsOf (l : Launch) (D : tg_D) (o0 o1 o2 o3 o4 o5 o6 o7 o8 : Nat) (m_text : Nat → Int32) (m_size : Int32) (m_at : Int32) (m_begin : Int32) (m_token : Int32) (m_told : Int32) (m_read : Nat → Int32) (m_harbour : Nat → Int32) (m_now : Nat → Int32) (m_undone : Nat → Int32) (m_undos : Int32) (m_one : Int32) (m_two : Int32) (m_three : Int32) (m_chalks : Int32) (m_cb : Nat → Int32) (m_co : Nat → Int32) (m_trace : Int64) (m_kept : Nat → Int32) (r : Int32) (hs : fX5_throwsOf m_harbour = some r) : Met l yX5_throwsOf [Cond.code yX5_throwsOf cX5_throwsOf 1 (some .int)] (tg_rm 1 21) (tg_Pre D (tw_M D o0 o1 o2 o3 o4 o5 o6 o7 o8 m_text m_size m_at m_begin m_token m_told m_read m_harbour m_now m_undone m_undos m_one m_two m_three m_chalks m_cb m_co m_trace m_kept) [.ref o0]) (vp_Si (fun r' => r' = r)) 0 0 (fun _ => False) := tg_metI (by decide) (Nat.le_of_ble_eq_true rfl) (fun X hl0 C hE => vX5_throwsOf l D o0 o1 o2 o3 o4 o5 o6 o7 o8 m_text m_size m_at m_begin m_token m_told m_read m_harbour m_now m_undone m_undos m_one m_two m_three m_chalks m_cb m_co m_trace m_kept X hl0 C r hs hE)
def fX5_die (m_harbour : Nat → Int32) (p1 : Int32) (p2 : Int32) : Option (Int32) := tg_b1 (fX5_isDie p1) fun rr1 => if rr1 = 0 then (some (-1)) else (tg_b1 (fX5_faces m_harbour p1) fun rr4 => tg_b1 (fX5_in (Int32.toInt64 p2) (-1) (Int32.toInt64 (rr4 - 1))) fun rr6 => if ¬ rr6 = 0 then (if 0 ≤ p2 then (tg_b1 (fX5_face m_harbour p1 p2) fun rr10 => some rr10) else (tg_b1 (fX5_faces m_harbour p1) fun rr12 => some rr12)) else (some (-1)))
set_option maxHeartbeats 2000000 in
set_option maxRecDepth 20000 in
theorem vX5_die (l : Launch) (D : tg_D) (o0 o1 o2 o3 o4 o5 o6 o7 o8 : Nat) (m_text : Nat → Int32) (m_size : Int32) (m_at : Int32) (m_begin : Int32) (m_token : Int32) (m_told : Int32) (m_read : Nat → Int32) (m_harbour : Nat → Int32) (m_now : Nat → Int32) (m_undone : Nat → Int32) (m_undos : Int32) (m_one : Int32) (m_two : Int32) (m_three : Int32) (m_chalks : Int32) (m_cb : Nat → Int32) (m_co : Nat → Int32) (m_trace : Int64) (m_kept : Nat → Int32) (p1 : Int32) (p2 : Int32) (X : tg_X) (hl0 : tg_l X = l) (C : tg_C X D 3 cX5_die RX5 2 45 0 0) (r : Int32) (hs : fX5_die m_harbour p1 p2 = some r) (hE : tg_Ei X D 0 0 cX5_die .int r (tw_M D o0 o1 o2 o3 o4 o5 o6 o7 o8 m_text m_size m_at m_begin m_token m_told m_read m_harbour m_now m_undone m_undos m_one m_two m_three m_chalks m_cb m_co m_trace m_kept)) : tg_G X D 3 0 0 (tw_M D o0 o1 o2 o3 o4 o5 o6 o7 o8 m_text m_size m_at m_begin m_token m_told m_read m_harbour m_now m_undone m_undos m_one m_two m_three m_chalks m_cb m_co m_trace m_kept) [(0, .ref o0), (1, .int p1), (2, .int p2)] 0 [] := by
  unfold fX5_die at hs
  refine tg_iload_n C dX5_die_0 rfl 1 rfl ?_
  obtain ⟨rr1, ee2, hs⟩ := tg_b1_e hs
  refine tg_pS (As := [.int p1]) (rest := []) C hl0 (kX5_isDie l D p1 rr1 ee2) wm_822 meX5_isDie (by decide) rfl rfl (Nat.le_of_ble_eq_true rfl) dX5_die_1 ?_
  refine tg_if_eq (tgt := 26) C dX5_die_4 (by decide) (fun cc3 => ?_) (fun cc3 => ?_)
  · have hs := tg_t cc3 hs
    refine tg_iconst (v := (-1)) C dX5_die_26 (by decide) ?_
    obtain rfl := Option.some.inj hs
    exact tg_iret hE rfl dX5_die_27
  · have hs := tg_f cc3 hs
    refine tg_iload_n C dX5_die_7 rfl 2 rfl ?_
    refine tg_i2l C dX5_die_8 ?_
    refine tg_ldc2 C wm_826 dX5_die_9 ?_
    refine tg_aload_n C dX5_die_12 rfl 0 rfl ?_
    refine tg_iload_n C dX5_die_13 rfl 1 rfl ?_
    obtain ⟨rr4, ee5, hs⟩ := tg_b1_e hs
    refine tg_pVs (As := [.int p1]) (rest := [.long (-1), .long (Int32.toInt64 p2)]) C hl0 (kX5_faces l D o0 o1 o2 o3 o4 o5 o6 o7 o8 m_text m_size m_at m_begin m_token m_told m_read m_harbour m_now m_undone m_undos m_one m_two m_three m_chalks m_cb m_co m_trace m_kept p1 rr4 ee5) wm_827 meX5_faces (by decide) rfl rfl rfl rfl (Nat.le_of_ble_eq_true rfl) dX5_die_14 ?_
    refine tg_iconst (v := 1) C dX5_die_17 (by decide) ?_
    refine tg_isub C dX5_die_18 ?_
    refine tg_i2l C dX5_die_19 ?_
    obtain ⟨rr6, ee7, hs⟩ := tg_b1_e hs
    refine tg_pS (As := [.long (Int32.toInt64 p2), .long (-1), .long (Int32.toInt64 (rr4 - 1))]) (rest := []) C hl0 (kX5_in l D (Int32.toInt64 p2) (-1) (Int32.toInt64 (rr4 - 1)) rr6 ee7) wm_768 meX5_in (by decide) rfl rfl (Nat.le_of_ble_eq_true rfl) dX5_die_20 ?_
    refine tg_if_ne (tgt := 28) C dX5_die_23 (by decide) (fun cc8 => ?_) (fun cc8 => ?_)
    · have hs := tg_t cc8 hs
      refine tg_iload_n C dX5_die_28 rfl 2 rfl ?_
      refine tg_if_ge (tgt := 40) C dX5_die_29 (by decide) (fun cc9 => ?_) (fun cc9 => ?_)
      · have hs := tg_t cc9 hs
        refine tg_aload_n C dX5_die_40 rfl 0 rfl ?_
        refine tg_iload_n C dX5_die_41 rfl 1 rfl ?_
        refine tg_iload_n C dX5_die_42 rfl 2 rfl ?_
        obtain ⟨rr10, ee11, hs⟩ := tg_b1_e hs
        refine tg_pVs (As := [.int p1, .int p2]) (rest := []) C hl0 (kX5_face l D o0 o1 o2 o3 o4 o5 o6 o7 o8 m_text m_size m_at m_begin m_token m_told m_read m_harbour m_now m_undone m_undos m_one m_two m_three m_chalks m_cb m_co m_trace m_kept p1 p2 rr10 ee11) wm_831 meX5_face (by decide) rfl rfl rfl rfl (Nat.le_of_ble_eq_true rfl) dX5_die_43 ?_
        obtain rfl := Option.some.inj hs
        exact tg_iret hE rfl dX5_die_46
      · have hs := tg_f cc9 hs
        refine tg_aload_n C dX5_die_32 rfl 0 rfl ?_
        refine tg_iload_n C dX5_die_33 rfl 1 rfl ?_
        obtain ⟨rr12, ee13, hs⟩ := tg_b1_e hs
        refine tg_pVs (As := [.int p1]) (rest := []) C hl0 (kX5_faces l D o0 o1 o2 o3 o4 o5 o6 o7 o8 m_text m_size m_at m_begin m_token m_told m_read m_harbour m_now m_undone m_undos m_one m_two m_three m_chalks m_cb m_co m_trace m_kept p1 rr12 ee13) wm_827 meX5_faces (by decide) rfl rfl rfl rfl (Nat.le_of_ble_eq_true rfl) dX5_die_34 ?_
        refine tg_goto (tgt := 46) C dX5_die_37 (by decide) ?_
        obtain rfl := Option.some.inj hs
        exact tg_iret hE rfl dX5_die_46
    · have hs := tg_nf cc8 hs
      refine tg_iconst (v := (-1)) C dX5_die_26 (by decide) ?_
      obtain rfl := Option.some.inj hs
      exact tg_iret hE rfl dX5_die_27
set_option maxHeartbeats 2000000 in
set_option maxRecDepth 20000 in
theorem kX5_die (l : Launch) (D : tg_D) (o0 o1 o2 o3 o4 o5 o6 o7 o8 : Nat) (m_text : Nat → Int32) (m_size : Int32) (m_at : Int32) (m_begin : Int32) (m_token : Int32) (m_told : Int32) (m_read : Nat → Int32) (m_harbour : Nat → Int32) (m_now : Nat → Int32) (m_undone : Nat → Int32) (m_undos : Int32) (m_one : Int32) (m_two : Int32) (m_three : Int32) (m_chalks : Int32) (m_cb : Nat → Int32) (m_co : Nat → Int32) (m_trace : Int64) (m_kept : Nat → Int32) (p1 : Int32) (p2 : Int32) (r : Int32) (hs : fX5_die m_harbour p1 p2 = some r) : Met l yX5_die [Cond.code yX5_die cX5_die 3 (some .int)] (tg_rm 2 45) (tg_Pre D (tw_M D o0 o1 o2 o3 o4 o5 o6 o7 o8 m_text m_size m_at m_begin m_token m_told m_read m_harbour m_now m_undone m_undos m_one m_two m_three m_chalks m_cb m_co m_trace m_kept) [.ref o0, .int p1, .int p2]) (vp_Si (fun r' => r' = r)) 0 0 (fun _ => False) := tg_metI (by decide) (Nat.le_of_ble_eq_true rfl) (fun X hl0 C hE => vX5_die l D o0 o1 o2 o3 o4 o5 o6 o7 o8 m_text m_size m_at m_begin m_token m_told m_read m_harbour m_now m_undone m_undos m_one m_two m_three m_chalks m_cb m_co m_trace m_kept p1 p2 X hl0 C r hs hE)
