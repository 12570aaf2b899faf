def fX5_number (m_text : Nat → Int32) (m_size : Int32) (m_at : Int32) (m_told : Int32) (p1 : Int32) (p2 : Int32) : Option (Int32 × Int32 × Int32 × Int32 × Int32) := tg_b4 (fX5_reads m_text m_size m_at m_told) fun vv1 vv2 vv3 vv4 => if ¬ vv3 = 2 then (some (0, vv1, vv2, vv3, vv4)) else (tg_b1 (fX5_in (Int32.toInt64 vv4) (Int32.toInt64 p1) (Int32.toInt64 p2)) fun rr7 => if rr7 = 0 then (some (0, vv1, vv2, vv3, vv4)) else (some (1, vv1, vv2, vv3, vv4)))
set_option maxHeartbeats 2000000 in
set_option maxRecDepth 20000 in
theorem vX5_number (l : Launch) (D : tg_D) (o0 o1 o2 o3 o4 o5 o6 o7 o8 : Nat) (m_text : Nat → Int32) (m_size : Int32) (m_at : Int32) (m_begin : Int32) (m_token : Int32) (m_told : Int32) (m_read : Nat → Int32) (m_harbour : Nat → Int32) (m_now : Nat → Int32) (m_undone : Nat → Int32) (m_undos : Int32) (m_one : Int32) (m_two : Int32) (m_three : Int32) (m_chalks : Int32) (m_cb : Nat → Int32) (m_co : Nat → Int32) (m_trace : Int64) (m_kept : Nat → Int32) (p1 : Int32) (p2 : Int32) (X : tg_X) (hl0 : tg_l X = l) (C : tg_C X D 3 cX5_number RX5 4 86 0 0) (V : tg_V X) (r : Int32) (q_m_at : Int32) (q_m_begin : Int32) (q_m_token : Int32) (q_m_told : Int32) (hs : fX5_number m_text m_size m_at m_told p1 p2 = some (r, q_m_at, q_m_begin, q_m_token, q_m_told)) (hE : tg_Ei X D 0 0 cX5_number .boolean r (tw_M D o0 o1 o2 o3 o4 o5 o6 o7 o8 m_text m_size q_m_at q_m_begin q_m_token q_m_told m_read m_harbour m_now m_undone m_undos m_one m_two m_three m_chalks m_cb m_co m_trace m_kept)) : tg_G X D 3 0 0 (tw_M D o0 o1 o2 o3 o4 o5 o6 o7 o8 m_text m_size m_at m_begin m_token m_told m_read m_harbour m_now m_undone m_undos m_one m_two m_three m_chalks m_cb m_co m_trace m_kept) [(0, .ref o0), (1, .int p1), (2, .int p2)] 0 [] := by
  unfold fX5_number at hs
  refine tg_aload_n C dX5_number_0 rfl 0 rfl ?_
  obtain ⟨vv1, vv2, vv3, vv4, ee5, hs⟩ := tg_b4_e hs
  refine tg_eVs (ws' := (tw_M D o0 o1 o2 o3 o4 o5 o6 o7 o8 m_text m_size vv1 vv2 vv3 vv4 m_read m_harbour m_now m_undone m_undos m_one m_two m_three m_chalks m_cb m_co m_trace m_kept)) (As := []) (rest := []) C V hl0 (kX5_reads l D o0 o1 o2 o3 o4 o5 o6 o7 o8 m_text m_size m_at m_begin m_token m_told m_read m_harbour m_now m_undone m_undos m_one m_two m_three m_chalks m_cb m_co m_trace m_kept vv1 vv2 vv3 vv4 ee5) wm_779 meX5_reads (by decide) rfl rfl rfl rfl (Nat.le_of_ble_eq_true rfl) rfl dX5_number_1 ?_
  refine tg_aload_n C dX5_number_4 rfl 0 rfl ?_
  refine tg_get (v := .int vv3) C cfX5 0 rfl 4 (by decide) wm_709 rfl dX5_number_5 ?_
  refine tg_iconst (v := 2) C dX5_number_8 (by decide) ?_
  refine tg_icmp_ne (tgt := 31) C dX5_number_9 (by decide) (fun cc6 => ?_) (fun cc6 => ?_)
  · have hs := tg_t cc6 hs
    refine tg_iconst (v := 0) C dX5_number_31 (by decide) ?_
    obtain ⟨rfl, rfl, rfl, rfl, rfl⟩ := tg_i5 hs
    exact tg_iret hE rfl dX5_number_32
  · have hs := tg_nf cc6 hs
    refine tg_aload_n C dX5_number_12 rfl 0 rfl ?_
    refine tg_get (v := .int vv4) C cfX5 0 rfl 5 (by decide) wm_710 rfl dX5_number_13 ?_
    refine tg_i2l C dX5_number_16 ?_
    refine tg_iload_n C dX5_number_17 rfl 1 rfl ?_
    refine tg_i2l C dX5_number_18 ?_
    refine tg_iload_n C dX5_number_19 rfl 2 rfl ?_
    refine tg_i2l C dX5_number_20 ?_
    obtain ⟨rr7, ee8, hs⟩ := tg_b1_e hs
    refine tg_pS (As := [.long (Int32.toInt64 vv4), .long (Int32.toInt64 p1), .long (Int32.toInt64 p2)]) (rest := []) C hl0 (kX5_in l D (Int32.toInt64 vv4) (Int32.toInt64 p1) (Int32.toInt64 p2) rr7 ee8) wm_768 meX5_in (by decide) rfl rfl (Nat.le_of_ble_eq_true rfl) dX5_number_21 ?_
    refine tg_if_eq (tgt := 31) C dX5_number_24 (by decide) (fun cc9 => ?_) (fun cc9 => ?_)
    · have hs := tg_t cc9 hs
      refine tg_iconst (v := 0) C dX5_number_31 (by decide) ?_
      obtain ⟨rfl, rfl, rfl, rfl, rfl⟩ := tg_i5 hs
      exact tg_iret hE rfl dX5_number_32
    · have hs := tg_f cc9 hs
      refine tg_iconst (v := 1) C dX5_number_27 (by decide) ?_
      refine tg_goto (tgt := 32) C dX5_number_28 (by decide) ?_
      obtain ⟨rfl, rfl, rfl, rfl, rfl⟩ := tg_i5 hs
      exact tg_iret hE rfl dX5_number_32
set_option maxHeartbeats 2000000 in
set_option maxRecDepth 20000 in
theorem kX5_number (l : Launch) (D : tg_D) (o0 o1 o2 o3 o4 o5 o6 o7 o8 : Nat) (m_text : Nat → Int32) (m_size : Int32) (m_at : Int32) (m_begin : Int32) (m_token : Int32) (m_told : Int32) (m_read : Nat → Int32) (m_harbour : Nat → Int32) (m_now : Nat → Int32) (m_undone : Nat → Int32) (m_undos : Int32) (m_one : Int32) (m_two : Int32) (m_three : Int32) (m_chalks : Int32) (m_cb : Nat → Int32) (m_co : Nat → Int32) (m_trace : Int64) (m_kept : Nat → Int32) (p1 : Int32) (p2 : Int32) (r : Int32) (q_m_at : Int32) (q_m_begin : Int32) (q_m_token : Int32) (q_m_told : Int32) (hs : fX5_number m_text m_size m_at m_told p1 p2 = some (r, q_m_at, q_m_begin, q_m_token, q_m_told)) : Met l yX5_number [Cond.code yX5_number cX5_number 3 (some .boolean)] (tg_rm 4 86) (tg_Pre D (tw_M D o0 o1 o2 o3 o4 o5 o6 o7 o8 m_text m_size m_at m_begin m_token m_told m_read m_harbour m_now m_undone m_undos m_one m_two m_three m_chalks m_cb m_co m_trace m_kept) [.ref o0, .int p1, .int p2]) (tg_Qe (some (.int r)) D (tw_M D o0 o1 o2 o3 o4 o5 o6 o7 o8 m_text m_size q_m_at q_m_begin q_m_token q_m_told m_read m_harbour m_now m_undone m_undos m_one m_two m_three m_chalks m_cb m_co m_trace m_kept) (tg_Ad (tw_M D o0 o1 o2 o3 o4 o5 o6 o7 o8 m_text m_size m_at m_begin m_token m_told m_read m_harbour m_now m_undone m_undos m_one m_two m_three m_chalks m_cb m_co m_trace m_kept))) 0 0 (tg_Ad (tw_M D o0 o1 o2 o3 o4 o5 o6 o7 o8 m_text m_size m_at m_begin m_token m_told m_read m_harbour m_now m_undone m_undos m_one m_two m_three m_chalks m_cb m_co m_trace m_kept)) := tg_metEi (by decide) (Nat.le_of_ble_eq_true rfl) (fun X hl0 C V hE => vX5_number l D o0 o1 o2 o3 o4 o5 o6 o7 o8 m_text m_size m_at m_begin m_token m_told m_read m_harbour m_now m_undone m_undos m_one m_two m_three m_chalks m_cb m_co m_trace m_kept p1 p2 X hl0 C V r q_m_at q_m_begin q_m_token q_m_told hs hE)
def fX5_plain_L51 (n1 : Int32) : Nat → (Nat → Int32) → Int32 → Option ((Nat → Int32) × Int32)
  | 0, _, _ => none
  | fuel + 1, m_read, n2 => if 7 ≤ n2 then (some (m_read, n2)) else (tg_ck ((4 + (7 * n1)) + n2) 25 <| tg_nm (upd m_read (Int32.toNatClampNeg ((4 + (7 * n1)) + n2)) n2) fun gg9 => tg_nm (n2 + 1) fun vv11 => fX5_plain_L51 n1 fuel gg9 vv11)
def fX5_plain_L31 : Nat → (Nat → Int32) → Int32 → Option ((Nat → Int32) × Int32)
  | 0, _, _ => none
  | fuel + 1, m_read, n1 => if 3 ≤ n1 then (some (m_read, n1)) else (tg_ck (4 + (7 * n1)) 25 <| tg_nm (upd m_read (Int32.toNatClampNeg (4 + (7 * n1))) 6) fun gg6 => tg_b2 (fX5_plain_L51 n1 400 gg6 1) fun vv12 vv13 => tg_nm (n1 + 1) fun vv15 => fX5_plain_L31 fuel vv12 vv15)
def fX5_plain (m_read : Nat → Int32) : Option ((Nat → Int32)) := tg_nm (upd m_read 0 12) fun gg1 => tg_nm (upd gg1 1 4) fun gg2 => tg_nm (upd gg2 2 0) fun gg3 => tg_nm (upd gg3 3 0) fun gg4 => tg_b2 (fX5_plain_L31 400 gg4 0) fun vv16 vv17 => some vv16
set_option maxHeartbeats 2000000 in
set_option maxRecDepth 20000 in
theorem vX5_plain_L51 (l : Launch) (D : tg_D) (o0 o1 o2 o3 o4 o5 o6 o7 o8 : Nat) (m_text : Nat → Int32) (m_size : Int32) (m_at : Int32) (m_begin : Int32) (m_token : Int32) (m_told : Int32) (m_harbour : Nat → Int32) (m_now : Nat → Int32) (m_undone : Nat → Int32) (m_undos : Int32) (m_one : Int32) (m_two : Int32) (m_three : Int32) (m_chalks : Int32) (m_cb : Nat → Int32) (m_co : Nat → Int32) (m_trace : Int64) (m_kept : Nat → Int32) (n1 : Int32) (X : tg_X) (hl0 : tg_l X = l) (C : tg_C X D 3 cX5_plain RX5 0 0 0 0) (V : tg_V X) (o_m_read : Nat → Int32) (o_n2 : Int32) : ∀ (fuel : Nat) (m_read : Nat → Int32) (n2 : Int32), fX5_plain_L51 n1 fuel m_read n2 = some (o_m_read, o_n2) → tg_G X D 3 0 0 (tw_M D o0 o1 o2 o3 o4 o5 o6 o7 o8 m_text m_size m_at m_begin m_token m_told o_m_read m_harbour m_now m_undone m_undos m_one m_two m_three m_chalks m_cb m_co m_trace m_kept) [(0, .ref o0), (1, .int n1), (2, .int o_n2)] 77 [] → tg_G X D 3 0 0 (tw_M D o0 o1 o2 o3 o4 o5 o6 o7 o8 m_text m_size m_at m_begin m_token m_told m_read m_harbour m_now m_undone m_undos m_one m_two m_three m_chalks m_cb m_co m_trace m_kept) [(0, .ref o0), (1, .int n1), (2, .int n2)] 51 [] := by
  intro fuel
  induction fuel with
  | zero =>
    intro m_read n2 hs _
    rw [fX5_plain_L51] at hs
    cases hs
  | succ fuel ih =>
    intro m_read n2 hs J
    rw [fX5_plain_L51] at hs
    refine tg_iload_n C dX5_plain_51 rfl 2 rfl ?_
    refine tg_bipush (v := 7) C dX5_plain_52 (by decide) ?_
    refine tg_icmp_ge (tgt := 77) C dX5_plain_54 (by decide) (fun cc8 => ?_) (fun cc8 => ?_)
    · have hs := tg_t cc8 hs
      obtain ⟨rfl, rfl⟩ := tg_i2 hs
      exact J
    · have hs := tg_f cc8 hs
      refine tg_aload_n C dX5_plain_57 rfl 0 rfl ?_
      refine tg_get (v := .ref o2) C cfX5 0 rfl 6 (by decide) wm_711 rfl dX5_plain_58 ?_
      refine tg_iconst (v := 4) C dX5_plain_61 (by decide) ?_
      refine tg_bipush (v := 7) C dX5_plain_62 (by decide) ?_
      refine tg_iload_n C dX5_plain_64 rfl 1 rfl ?_
      refine tg_imul C dX5_plain_65 ?_
      refine tg_iadd C dX5_plain_66 ?_
      refine tg_iload_n C dX5_plain_67 rfl 2 rfl ?_
      refine tg_iadd C dX5_plain_68 ?_
      refine tg_iload_n C dX5_plain_69 rfl 2 rfl ?_
      obtain ⟨hh10, hs⟩ := tg_ck_e hs
      obtain ⟨gg9, egg9, hs⟩ := tg_nm_e hs
      refine tg_iast (ws' := (tw_M D o0 o1 o2 o3 o4 o5 o6 o7 o8 m_text m_size m_at m_begin m_token m_told gg9 m_harbour m_now m_undone m_undos m_one m_two m_three m_chalks m_cb m_co m_trace m_kept)) C V 2 0 rfl rfl hh10 egg9 rfl dX5_plain_70 ?_
      obtain ⟨vv11, evv11, hs⟩ := tg_nm_e hs
      refine tg_iinc (v := vv11) (lv' := [(2, .int vv11), (0, .ref o0), (1, .int n1)]) C dX5_plain_71 2 rfl (by rw [evv11]; rfl) (by decide) rfl ?_
      refine tg_goto (tgt := 51) C dX5_plain_74 (by decide) ?_
      refine tg_lsub [1, 2, 0] rfl ?_
      exact ih gg9 vv11 hs J
set_option maxHeartbeats 2000000 in
set_option maxRecDepth 20000 in
theorem vX5_plain_L31 (l : Launch) (D : tg_D) (o0 o1 o2 o3 o4 o5 o6 o7 o8 : Nat) (m_text : Nat → Int32) (m_size : Int32) (m_at : Int32) (m_begin : Int32) (m_token : Int32) (m_told : Int32) (m_harbour : Nat → Int32) (m_now : Nat → Int32) (m_undone : Nat → Int32) (m_undos : Int32) (m_one : Int32) (m_two : Int32) (m_three : Int32) (m_chalks : Int32) (m_cb : Nat → Int32) (m_co : Nat → Int32) (m_trace : Int64) (m_kept : Nat → Int32) (X : tg_X) (hl0 : tg_l X = l) (C : tg_C X D 3 cX5_plain RX5 0 0 0 0) (V : tg_V X) (o_m_read : Nat → Int32) (o_n1 : Int32) : ∀ (fuel : Nat) (m_read : Nat → Int32) (n1 : Int32), fX5_plain_L31 fuel m_read n1 = some (o_m_read, o_n1) → tg_G X D 3 0 0 (tw_M D o0 o1 o2 o3 o4 o5 o6 o7 o8 m_text m_size m_at m_begin m_token m_told o_m_read m_harbour m_now m_undone m_undos m_one m_two m_three m_chalks m_cb m_co m_trace m_kept) [(0, .ref o0), (1, .int o_n1)] 83 [] → tg_G X D 3 0 0 (tw_M D o0 o1 o2 o3 o4 o5 o6 o7 o8 m_text m_size m_at m_begin m_token m_told m_read m_harbour m_now m_undone m_undos m_one m_two m_three m_chalks m_cb m_co m_trace m_kept) [(0, .ref o0), (1, .int n1)] 31 [] := by
  intro fuel
  induction fuel with
  | zero =>
    intro m_read n1 hs _
    rw [fX5_plain_L31] at hs
    cases hs
  | succ fuel ih =>
    intro m_read n1 hs J
    rw [fX5_plain_L31] at hs
    refine tg_iload_n C dX5_plain_31 rfl 1 rfl ?_
    refine tg_iconst (v := 3) C dX5_plain_32 (by decide) ?_
    refine tg_icmp_ge (tgt := 83) C dX5_plain_33 (by decide) (fun cc5 => ?_) (fun cc5 => ?_)
    · have hs := tg_t cc5 hs
      obtain ⟨rfl, rfl⟩ := tg_i2 hs
      exact J
    · have hs := tg_f cc5 hs
      refine tg_aload_n C dX5_plain_36 rfl 0 rfl ?_
      refine tg_get (v := .ref o2) C cfX5 0 rfl 6 (by decide) wm_711 rfl dX5_plain_37 ?_
      refine tg_iconst (v := 4) C dX5_plain_40 (by decide) ?_
      refine tg_bipush (v := 7) C dX5_plain_41 (by decide) ?_
      refine tg_iload_n C dX5_plain_43 rfl 1 rfl ?_
      refine tg_imul C dX5_plain_44 ?_
      refine tg_iadd C dX5_plain_45 ?_
      refine tg_bipush (v := 6) C dX5_plain_46 (by decide) ?_
      obtain ⟨hh7, hs⟩ := tg_ck_e hs
      obtain ⟨gg6, egg6, hs⟩ := tg_nm_e hs
      refine tg_iast (ws' := (tw_M D o0 o1 o2 o3 o4 o5 o6 o7 o8 m_text m_size m_at m_begin m_token m_told gg6 m_harbour m_now m_undone m_undos m_one m_two m_three m_chalks m_cb m_co m_trace m_kept)) C V 2 0 rfl rfl hh7 egg6 rfl dX5_plain_48 ?_
      refine tg_iconst (v := 1) C dX5_plain_49 (by decide) ?_
      refine tg_istore_n (lv' := [(2, .int 1), (0, .ref o0), (1, .int n1)]) C dX5_plain_50 rfl (by decide) rfl ?_
      refine tg_lsub [1, 2, 0] rfl ?_
      obtain ⟨vv12, vv13, ee14, hs⟩ := tg_b2_e hs
      refine vX5_plain_L51 l D o0 o1 o2 o3 o4 o5 o6 o7 o8 m_text m_size m_at m_begin m_token m_told m_harbour m_now m_undone m_undos m_one m_two m_three m_chalks m_cb m_co m_trace m_kept n1 X hl0 C V vv12 vv13 400 gg6 1 ee14 ?_
      obtain ⟨vv15, evv15, hs⟩ := tg_nm_e hs
      refine tg_iinc (v := vv15) (lv' := [(1, .int vv15), (0, .ref o0), (2, .int vv13)]) C dX5_plain_77 1 rfl (by rw [evv15]; rfl) (by decide) rfl ?_
      refine tg_goto (tgt := 31) C dX5_plain_80 (by decide) ?_
      refine tg_lsub [1, 0] rfl ?_
      exact ih vv12 vv15 hs J
set_option maxHeartbeats 2000000 in
set_option maxRecDepth 20000 in
theorem vX5_plain (l : Launch) (D : tg_D) (o0 o1 o2 o3 o4 o5 o6 o7 o8 : Nat) (m_text : Nat → Int32) (m_size : Int32) (m_at : Int32) (m_begin : Int32) (m_token : Int32) (m_told : Int32) (m_read : Nat → Int32) (m_harbour : Nat → Int32) (m_now : Nat → Int32) (m_undone : Nat → Int32) (m_undos : Int32) (m_one : Int32) (m_two : Int32) (m_three : Int32) (m_chalks : Int32) (m_cb : Nat → Int32) (m_co : Nat → Int32) (m_trace : Int64) (m_kept : Nat → Int32) (X : tg_X) (hl0 : tg_l X = l) (C : tg_C X D 3 cX5_plain RX5 0 0 0 0) (V : tg_V X) (q_m_read : Nat → Int32) (hs : fX5_plain m_read = some q_m_read) (hE : tg_Ev X D 0 0 cX5_plain (tw_M D o0 o1 o2 o3 o4 o5 o6 o7 o8 m_text m_size m_at m_begin m_token m_told q_m_read m_harbour m_now m_undone m_undos m_one m_two m_three m_chalks m_cb m_co m_trace m_kept)) : tg_G X D 3 0 0 (tw_M D o0 o1 o2 o3 o4 o5 o6 o7 o8 m_text m_size m_at m_begin m_token m_told m_read m_harbour m_now m_undone m_undos m_one m_two m_three m_chalks m_cb m_co m_trace m_kept) [(0, .ref o0)] 0 [] := by
  unfold fX5_plain at hs
  refine tg_aload_n C dX5_plain_0 rfl 0 rfl ?_
  refine tg_get (v := .ref o2) C cfX5 0 rfl 6 (by decide) wm_711 rfl dX5_plain_1 ?_
  refine tg_iconst (v := 0) C dX5_plain_4 (by decide) ?_
  refine tg_bipush (v := 12) C dX5_plain_5 (by decide) ?_
  obtain ⟨gg1, egg1, hs⟩ := tg_nm_e hs
  refine tg_iast (ws' := (tw_M D o0 o1 o2 o3 o4 o5 o6 o7 o8 m_text m_size m_at m_begin m_token m_told gg1 m_harbour m_now m_undone m_undos m_one m_two m_three m_chalks m_cb m_co m_trace m_kept)) C V 2 0 rfl rfl (tg_vin (by decide)) (by rw [egg1]; rfl) rfl dX5_plain_7 ?_
  refine tg_aload_n C dX5_plain_8 rfl 0 rfl ?_
  refine tg_get (v := .ref o2) C cfX5 0 rfl 6 (by decide) wm_711 rfl dX5_plain_9 ?_
  refine tg_iconst (v := 1) C dX5_plain_12 (by decide) ?_
  refine tg_iconst (v := 4) C dX5_plain_13 (by decide) ?_
  obtain ⟨gg2, egg2, hs⟩ := tg_nm_e hs
  refine tg_iast (ws' := (tw_M D o0 o1 o2 o3 o4 o5 o6 o7 o8 m_text m_size m_at m_begin m_token m_told gg2 m_harbour m_now m_undone m_undos m_one m_two m_three m_chalks m_cb m_co m_trace m_kept)) C V 2 0 rfl rfl (tg_vin (by decide)) (by rw [egg2]; rfl) rfl dX5_plain_14 ?_
  refine tg_aload_n C dX5_plain_15 rfl 0 rfl ?_
  refine tg_get (v := .ref o2) C cfX5 0 rfl 6 (by decide) wm_711 rfl dX5_plain_16 ?_
  refine tg_iconst (v := 2) C dX5_plain_19 (by decide) ?_
  refine tg_iconst (v := 0) C dX5_plain_20 (by decide) ?_
  obtain ⟨gg3, egg3, hs⟩ := tg_nm_e hs
  refine tg_iast (ws' := (tw_M D o0 o1 o2 o3 o4 o5 o6 o7 o8 m_text m_size m_at m_begin m_token m_told gg3 m_harbour m_now m_undone m_undos m_one m_two m_three m_chalks m_cb m_co m_trace m_kept)) C V 2 0 rfl rfl (tg_vin (by decide)) (by rw [egg3]; rfl) rfl dX5_plain_21 ?_
  refine tg_aload_n C dX5_plain_22 rfl 0 rfl ?_
  refine tg_get (v := .ref o2) C cfX5 0 rfl 6 (by decide) wm_711 rfl dX5_plain_23 ?_
  refine tg_iconst (v := 3) C dX5_plain_26 (by decide) ?_
  refine tg_iconst (v := 0) C dX5_plain_27 (by decide) ?_
  obtain ⟨gg4, egg4, hs⟩ := tg_nm_e hs
  refine tg_iast (ws' := (tw_M D o0 o1 o2 o3 o4 o5 o6 o7 o8 m_text m_size m_at m_begin m_token m_told gg4 m_harbour m_now m_undone m_undos m_one m_two m_three m_chalks m_cb m_co m_trace m_kept)) C V 2 0 rfl rfl (tg_vin (by decide)) (by rw [egg4]; rfl) rfl dX5_plain_28 ?_
  refine tg_iconst (v := 0) C dX5_plain_29 (by decide) ?_
  refine tg_istore_n (lv' := [(1, .int 0), (0, .ref o0)]) C dX5_plain_30 rfl (by decide) rfl ?_
  refine tg_lsub [1, 0] rfl ?_
  obtain ⟨vv16, vv17, ee18, hs⟩ := tg_b2_e hs
  refine vX5_plain_L31 l D o0 o1 o2 o3 o4 o5 o6 o7 o8 m_text m_size m_at m_begin m_token m_told m_harbour m_now m_undone m_undos m_one m_two m_three m_chalks m_cb m_co m_trace m_kept X hl0 C V vv16 vv17 400 gg4 0 ee18 ?_
  obtain rfl := Option.some.inj hs
  exact tg_vret hE dX5_plain_83
set_option maxHeartbeats 2000000 in
set_option maxRecDepth 20000 in
theorem kX5_plain (l : Launch) (D : tg_D) (o0 o1 o2 o3 o4 o5 o6 o7 o8 : Nat) (m_text : Nat → Int32) (m_size : Int32) (m_at : Int32) (m_begin : Int32) (m_token : Int32) (m_told : Int32) (m_read : Nat → Int32) (m_harbour : Nat → Int32) (m_now : Nat → Int32) (m_undone : Nat → Int32) (m_undos : Int32) (m_one : Int32) (m_two : Int32) (m_three : Int32) (m_chalks : Int32) (m_cb : Nat → Int32) (m_co : Nat → Int32) (m_trace : Int64) (m_kept : Nat → Int32) (q_m_read : Nat → Int32) (hs : fX5_plain m_read = some q_m_read) : Met l yX5_plain [Cond.code yX5_plain cX5_plain 3 none] (tg_rm 0 0) (tg_Pre D (tw_M D o0 o1 o2 o3 o4 o5 o6 o7 o8 m_text m_size m_at m_begin m_token m_told m_read m_harbour m_now m_undone m_undos m_one m_two m_three m_chalks m_cb m_co m_trace m_kept) [.ref o0]) (tg_Qe none D (tw_M D o0 o1 o2 o3 o4 o5 o6 o7 o8 m_text m_size m_at m_begin m_token m_told q_m_read m_harbour m_now m_undone m_undos m_one m_two m_three m_chalks m_cb m_co m_trace m_kept) (tg_Ad (tw_M D o0 o1 o2 o3 o4 o5 o6 o7 o8 m_text m_size m_at m_begin m_token m_told m_read m_harbour m_now m_undone m_undos m_one m_two m_three m_chalks m_cb m_co m_trace m_kept))) 0 0 (tg_Ad (tw_M D o0 o1 o2 o3 o4 o5 o6 o7 o8 m_text m_size m_at m_begin m_token m_told m_read m_harbour m_now m_undone m_undos m_one m_two m_three m_chalks m_cb m_co m_trace m_kept)) := tg_metEv (by decide) (Nat.le_of_ble_eq_true rfl) (fun X hl0 C V hE => vX5_plain l D o0 o1 o2 o3 o4 o5 o6 o7 o8 m_text m_size m_at m_begin m_token m_told m_read m_harbour m_now m_undone m_undos m_one m_two m_three m_chalks m_cb m_co m_trace m_kept X hl0 C V q_m_read hs hE)
def fX5_readDie_L36 (m_text : Nat → Int32) (m_size : Int32) (n1 : Int32) : Nat → Int32 → Int32 → Int32 → Int32 → (Nat → Int32) → Int32 → Option (Int32 × Int32 × Int32 × Int32 × Int32 × (Nat → Int32))
  | 0, _, _, _, _, _, _ => none
  | fuel + 1, m_at, m_begin, m_token, m_told, m_read, n2 => if ¬ m_token = 2 then (tg_ck n1 25 <| tg_nm (upd m_read (Int32.toNatClampNeg n1) n2) fun gg11 => tg_nm ((gg11 2) + 1) fun vv13 => tg_nm (upd gg11 2 vv13) fun gg14 => if ¬ m_token = 3 then (some (0, m_at, m_begin, m_token, m_told, gg14)) else (some (1, m_at, m_begin, m_token, m_told, gg14))) else (if n2 = 6 then (some (0, m_at, m_begin, m_token, m_told, m_read)) else (tg_b1 (fX5_in (Int32.toInt64 m_told) 1 9) fun rr17 => if ¬ rr17 = 0 then (tg_nm (n2 + 1) fun vv20 => tg_ck (n1 + vv20) 25 <| tg_nm (upd m_read (Int32.toNatClampNeg (n1 + vv20)) m_told) fun gg21 => tg_b4 (fX5_reads m_text m_size m_at m_told) fun vv23 vv24 vv25 vv26 => fX5_readDie_L36 m_text m_size n1 fuel vv23 vv24 vv25 vv26 gg21 vv20) else (some (0, m_at, m_begin, m_token, m_told, m_read))))
def fX5_readDie (m_text : Nat → Int32) (m_size : Int32) (m_at : Int32) (m_begin : Int32) (m_token : Int32) (m_told : Int32) (m_read : Nat → Int32) : Option (Int32 × Int32 × Int32 × Int32 × Int32 × (Nat → Int32)) := tg_nm (4 + (7 * (m_read 2))) fun vv1 => if (m_read 2) = 3 then (some (0, m_at, m_begin, m_token, m_told, m_read)) else (tg_b5 (fX5_number m_text m_size m_at m_told 1 9) fun rr3 vv4 vv5 vv6 vv7 => if ¬ rr3 = 0 then (fX5_readDie_L36 m_text m_size vv1 400 vv4 vv5 vv6 vv7 m_read 0) else (some (0, vv4, vv5, vv6, vv7, m_read)))
set_option maxHeartbeats 2000000 in
set_option maxRecDepth 20000 in
theorem vX5_readDie_L36 (l : Launch) (D : tg_D) (o0 o1 o2 o3 o4 o5 o6 o7 o8 : Nat) (m_text : Nat → Int32) (m_size : Int32) (m_harbour : Nat → Int32) (m_now : Nat → Int32) (m_undone : Nat → Int32) (m_undos : Int32) (m_one : Int32) (m_two : Int32) (m_three : Int32) (m_chalks : Int32) (m_cb : Nat → Int32) (m_co : Nat → Int32) (m_trace : Int64) (m_kept : Nat → Int32) (n1 : Int32) (X : tg_X) (hl0 : tg_l X = l) (C : tg_C X D 3 cX5_readDie RX5 5 108 0 0) (V : tg_V X) (r : Int32) (q_m_at : Int32) (q_m_begin : Int32) (q_m_token : Int32) (q_m_told : Int32) (q_m_read : Nat → Int32) (hE : tg_Ei X D 0 0 cX5_readDie .boolean r (tw_M D o0 o1 o2 o3 o4 o5 o6 o7 o8 m_text m_size q_m_at q_m_begin q_m_token q_m_told q_m_read m_harbour m_now m_undone m_undos m_one m_two m_three m_chalks m_cb m_co m_trace m_kept)) : ∀ (fuel : Nat) (m_at : Int32) (m_begin : Int32) (m_token : Int32) (m_told : Int32) (m_read : Nat → Int32) (n2 : Int32), fX5_readDie_L36 m_text m_size n1 fuel m_at m_begin m_token m_told m_read n2 = some (r, q_m_at, q_m_begin, q_m_token, q_m_told, q_m_read) → tg_G X D 3 0 0 (tw_M D o0 o1 o2 o3 o4 o5 o6 o7 o8 m_text m_size m_at m_begin m_token m_told m_read m_harbour m_now m_undone m_undos m_one m_two m_three m_chalks m_cb m_co m_trace m_kept) [(0, .ref o0), (1, .int n1), (2, .int n2)] 36 [] := by
  intro fuel
  induction fuel with
  | zero =>
    intro m_at m_begin m_token m_told m_read n2 hs
    rw [fX5_readDie_L36] at hs
    cases hs
  | succ fuel ih =>
    intro m_at m_begin m_token m_told m_read n2 hs
    rw [fX5_readDie_L36] at hs
    refine tg_aload_n C dX5_readDie_36 rfl 0 rfl ?_
    refine tg_get (v := .int m_token) C cfX5 0 rfl 4 (by decide) wm_709 rfl dX5_readDie_37 ?_
    refine tg_iconst (v := 2) C dX5_readDie_40 (by decide) ?_
    refine tg_icmp_ne (tgt := 89) C dX5_readDie_41 (by decide) (fun cc10 => ?_) (fun cc10 => ?_)
    · have hs := tg_t cc10 hs
      refine tg_aload_n C dX5_readDie_89 rfl 0 rfl ?_
      refine tg_get (v := .ref o2) C cfX5 0 rfl 6 (by decide) wm_711 rfl dX5_readDie_90 ?_
      refine tg_iload_n C dX5_readDie_93 rfl 1 rfl ?_
      refine tg_iload_n C dX5_readDie_94 rfl 2 rfl ?_
      obtain ⟨hh12, hs⟩ := tg_ck_e hs
      obtain ⟨gg11, egg11, hs⟩ := tg_nm_e hs
      refine tg_iast (ws' := (tw_M D o0 o1 o2 o3 o4 o5 o6 o7 o8 m_text m_size m_at m_begin m_token m_told gg11 m_harbour m_now m_undone m_undos m_one m_two m_three m_chalks m_cb m_co m_trace m_kept)) C V 2 0 rfl rfl hh12 egg11 rfl dX5_readDie_95 ?_
      refine tg_aload_n C dX5_readDie_96 rfl 0 rfl ?_
      refine tg_get (v := .ref o2) C cfX5 0 rfl 6 (by decide) wm_711 rfl dX5_readDie_97 ?_
      refine tg_iconst (v := 2) C dX5_readDie_100 (by decide) ?_
      refine tg_dup2 C dX5_readDie_101 rfl rfl ?_
      refine tg_iald C 2 0 rfl rfl (tg_vin (by decide)) dX5_readDie_102 ?_
      refine tg_topi (y := gg11 2) rfl ?_
      refine tg_iconst (v := 1) C dX5_readDie_103 (by decide) ?_
      refine tg_iadd C dX5_readDie_104 ?_
      obtain ⟨vv13, evv13, hs⟩ := tg_nm_e hs
      refine tg_topi evv13 ?_
      obtain ⟨gg14, egg14, hs⟩ := tg_nm_e hs
      refine tg_iast (ws' := (tw_M D o0 o1 o2 o3 o4 o5 o6 o7 o8 m_text m_size m_at m_begin m_token m_told gg14 m_harbour m_now m_undone m_undos m_one m_two m_three m_chalks m_cb m_co m_trace m_kept)) C V 2 0 rfl rfl (tg_vin (by decide)) (by rw [egg14]; rfl) rfl dX5_readDie_105 ?_
      refine tg_aload_n C dX5_readDie_106 rfl 0 rfl ?_
      refine tg_get (v := .int m_token) C cfX5 0 rfl 4 (by decide) wm_709 rfl dX5_readDie_107 ?_
      refine tg_iconst (v := 3) C dX5_readDie_110 (by decide) ?_
      refine tg_icmp_ne (tgt := 118) C dX5_readDie_111 (by decide) (fun cc15 => ?_) (fun cc15 => ?_)
      · have hs := tg_t cc15 hs
        refine tg_iconst (v := 0) C dX5_readDie_118 (by decide) ?_
        obtain ⟨rfl, rfl, rfl, rfl, rfl, rfl⟩ := tg_i6 hs
        exact tg_iret hE rfl dX5_readDie_119
      · have hs := tg_nf cc15 hs
        refine tg_iconst (v := 1) C dX5_readDie_114 (by decide) ?_
        refine tg_goto (tgt := 119) C dX5_readDie_115 (by decide) ?_
        obtain ⟨rfl, rfl, rfl, rfl, rfl, rfl⟩ := tg_i6 hs
        exact tg_iret hE rfl dX5_readDie_119
    · have hs := tg_nf cc10 hs
      refine tg_iload_n C dX5_readDie_44 rfl 2 rfl ?_
      refine tg_bipush (v := 6) C dX5_readDie_45 (by decide) ?_
      refine tg_icmp_eq (tgt := 65) C dX5_readDie_47 (by decide) (fun cc16 => ?_) (fun cc16 => ?_)
      · have hs := tg_t cc16 hs
        refine tg_iconst (v := 0) C dX5_readDie_65 (by decide) ?_
        obtain ⟨rfl, rfl, rfl, rfl, rfl, rfl⟩ := tg_i6 hs
        exact tg_iret hE rfl dX5_readDie_66
      · have hs := tg_f cc16 hs
        refine tg_aload_n C dX5_readDie_50 rfl 0 rfl ?_
        refine tg_get (v := .int m_told) C cfX5 0 rfl 5 (by decide) wm_710 rfl dX5_readDie_51 ?_
        refine tg_i2l C dX5_readDie_54 ?_
        refine tg_lconst (v := 1) C dX5_readDie_55 (by decide) ?_
        refine tg_ldc2 C wm_813 dX5_readDie_56 ?_
        obtain ⟨rr17, ee18, hs⟩ := tg_b1_e hs
        refine tg_pS (As := [.long (Int32.toInt64 m_told), .long 1, .long 9]) (rest := []) C hl0 (kX5_in l D (Int32.toInt64 m_told) 1 9 rr17 ee18) wm_768 meX5_in (by decide) rfl rfl (Nat.le_of_ble_eq_true rfl) dX5_readDie_59 ?_
        refine tg_if_ne (tgt := 67) C dX5_readDie_62 (by decide) (fun cc19 => ?_) (fun cc19 => ?_)
        · have hs := tg_t cc19 hs
          obtain ⟨vv20, evv20, hs⟩ := tg_nm_e hs
          refine tg_iinc (v := vv20) (lv' := [(2, .int vv20), (0, .ref o0), (1, .int n1)]) C dX5_readDie_67 2 rfl (by rw [evv20]; rfl) (by decide) rfl ?_
          refine tg_aload_n C dX5_readDie_70 rfl 1 rfl ?_
          refine tg_get (v := .ref o2) C cfX5 0 rfl 6 (by decide) wm_711 rfl dX5_readDie_71 ?_
          refine tg_iload_n C dX5_readDie_74 rfl 2 rfl ?_
          refine tg_iload_n C dX5_readDie_75 rfl 0 rfl ?_
          refine tg_iadd C dX5_readDie_76 ?_
          refine tg_aload_n C dX5_readDie_77 rfl 1 rfl ?_
          refine tg_get (v := .int m_told) C cfX5 0 rfl 5 (by decide) wm_710 rfl dX5_readDie_78 ?_
          obtain ⟨hh22, hs⟩ := tg_ck_e hs
          obtain ⟨gg21, egg21, hs⟩ := tg_nm_e hs
          refine tg_iast (ws' := (tw_M D o0 o1 o2 o3 o4 o5 o6 o7 o8 m_text m_size m_at m_begin m_token m_told gg21 m_harbour m_now m_undone m_undos m_one m_two m_three m_chalks m_cb m_co m_trace m_kept)) C V 2 0 rfl rfl hh22 egg21 rfl dX5_readDie_81 ?_
          refine tg_aload_n C dX5_readDie_82 rfl 1 rfl ?_
          obtain ⟨vv23, vv24, vv25, vv26, ee27, hs⟩ := tg_b4_e hs
          refine tg_eVs (ws' := (tw_M D o0 o1 o2 o3 o4 o5 o6 o7 o8 m_text m_size vv23 vv24 vv25 vv26 gg21 m_harbour m_now m_undone m_undos m_one m_two m_three m_chalks m_cb m_co m_trace m_kept)) (As := []) (rest := []) C V hl0 (kX5_reads l D o0 o1 o2 o3 o4 o5 o6 o7 o8 m_text m_size m_at m_begin m_token m_told gg21 m_harbour m_now m_undone m_undos m_one m_two m_three m_chalks m_cb m_co m_trace m_kept vv23 vv24 vv25 vv26 ee27) wm_779 meX5_reads (by decide) rfl rfl rfl rfl (Nat.le_of_ble_eq_true rfl) rfl dX5_readDie_83 ?_
          refine tg_goto (tgt := 36) C dX5_readDie_86 (by decide) ?_
          refine tg_lsub [1, 2, 0] rfl ?_
          exact ih vv23 vv24 vv25 vv26 gg21 vv20 hs
        · have hs := tg_nf cc19 hs
          refine tg_iconst (v := 0) C dX5_readDie_65 (by decide) ?_
          obtain ⟨rfl, rfl, rfl, rfl, rfl, rfl⟩ := tg_i6 hs
          exact tg_iret hE rfl dX5_readDie_66
set_option maxHeartbeats 2000000 in
set_option maxRecDepth 20000 in
theorem vX5_readDie (l : Launch) (D : tg_D) (o0 o1 o2 o3 o4 o5 o6 o7 o8 : Nat) (m_text : Nat → Int32) (m_size : Int32) (m_at : Int32) (m_begin : Int32) (m_token : Int32) (m_told : Int32) (m_read : Nat → Int32) (m_harbour : Nat → Int32) (m_now : Nat → Int32) (m_undone : Nat → Int32) (m_undos : Int32) (m_one : Int32) (m_two : Int32) (m_three : Int32) (m_chalks : Int32) (m_cb : Nat → Int32) (m_co : Nat → Int32) (m_trace : Int64) (m_kept : Nat → Int32) (X : tg_X) (hl0 : tg_l X = l) (C : tg_C X D 3 cX5_readDie RX5 5 108 0 0) (V : tg_V X) (r : Int32) (q_m_at : Int32) (q_m_begin : Int32) (q_m_token : Int32) (q_m_told : Int32) (q_m_read : Nat → Int32) (hs : fX5_readDie m_text m_size m_at m_begin m_token m_told m_read = some (r, q_m_at, q_m_begin, q_m_token, q_m_told, q_m_read)) (hE : tg_Ei X D 0 0 cX5_readDie .boolean r (tw_M D o0 o1 o2 o3 o4 o5 o6 o7 o8 m_text m_size q_m_at q_m_begin q_m_token q_m_told q_m_read m_harbour m_now m_undone m_undos m_one m_two m_three m_chalks m_cb m_co m_trace m_kept)) : tg_G X D 3 0 0 (tw_M D o0 o1 o2 o3 o4 o5 o6 o7 o8 m_text m_size m_at m_begin m_token m_told m_read m_harbour m_now m_undone m_undos m_one m_two m_three m_chalks m_cb m_co m_trace m_kept) [(0, .ref o0)] 0 [] := by
  unfold fX5_readDie at hs
  refine tg_iconst (v := 4) C dX5_readDie_0 (by decide) ?_
  refine tg_bipush (v := 7) C dX5_readDie_1 (by decide) ?_
  refine tg_aload_n C dX5_readDie_3 rfl 0 rfl ?_
  refine tg_get (v := .ref o2) C cfX5 0 rfl 6 (by decide) wm_711 rfl dX5_readDie_4 ?_
  refine tg_iconst (v := 2) C dX5_readDie_7 (by decide) ?_
  refine tg_iald C 2 0 rfl rfl (tg_vin (by decide)) dX5_readDie_8 ?_
  refine tg_topi (y := m_read 2) rfl ?_
  refine tg_imul C dX5_readDie_9 ?_
  refine tg_iadd C dX5_readDie_10 ?_
  obtain ⟨vv1, evv1, hs⟩ := tg_nm_e hs
  refine tg_topi evv1 ?_
  refine tg_istore_n (lv' := [(1, .int vv1), (0, .ref o0)]) C dX5_readDie_11 rfl (by decide) rfl ?_
  refine tg_aload_n C dX5_readDie_12 rfl 1 rfl ?_
  refine tg_get (v := .ref o2) C cfX5 0 rfl 6 (by decide) wm_711 rfl dX5_readDie_13 ?_
  refine tg_iconst (v := 2) C dX5_readDie_16 (by decide) ?_
  refine tg_iald C 2 0 rfl rfl (tg_vin (by decide)) dX5_readDie_17 ?_
  refine tg_topi (y := m_read 2) rfl ?_
  refine tg_iconst (v := 3) C dX5_readDie_18 (by decide) ?_
  refine tg_icmp_eq (tgt := 32) C dX5_readDie_19 (by decide) (fun cc2 => ?_) (fun cc2 => ?_)
  · have hs := tg_t cc2 hs
    refine tg_iconst (v := 0) C dX5_readDie_32 (by decide) ?_
    obtain ⟨rfl, rfl, rfl, rfl, rfl, rfl⟩ := tg_i6 hs
    exact tg_iret hE rfl dX5_readDie_33
  · have hs := tg_f cc2 hs
    refine tg_aload_n C dX5_readDie_22 rfl 1 rfl ?_
    refine tg_iconst (v := 1) C dX5_readDie_23 (by decide) ?_
    refine tg_bipush (v := 9) C dX5_readDie_24 (by decide) ?_
    obtain ⟨rr3, vv4, vv5, vv6, vv7, ee8, hs⟩ := tg_b5_e hs
    refine tg_eVs (ws' := (tw_M D o0 o1 o2 o3 o4 o5 o6 o7 o8 m_text m_size vv4 vv5 vv6 vv7 m_read m_harbour m_now m_undone m_undos m_one m_two m_three m_chalks m_cb m_co m_trace m_kept)) (As := [.int 1, .int 9]) (rest := []) C V hl0 (kX5_number l D o0 o1 o2 o3 o4 o5 o6 o7 o8 m_text m_size m_at m_begin m_token m_told m_read m_harbour m_now m_undone m_undos m_one m_two m_three m_chalks m_cb m_co m_trace m_kept 1 9 rr3 vv4 vv5 vv6 vv7 ee8) wm_809 meX5_number (by decide) rfl rfl rfl rfl (Nat.le_of_ble_eq_true rfl) rfl dX5_readDie_26 ?_
    refine tg_if_ne (tgt := 34) C dX5_readDie_29 (by decide) (fun cc9 => ?_) (fun cc9 => ?_)
    · have hs := tg_t cc9 hs
      refine tg_iconst (v := 0) C dX5_readDie_34 (by decide) ?_
      refine tg_istore_n (lv' := [(2, .int 0), (1, .int vv1), (0, .ref o0)]) C dX5_readDie_35 rfl (by decide) rfl ?_
      refine tg_lsub [2, 1, 0] rfl ?_
      exact vX5_readDie_L36 l D o0 o1 o2 o3 o4 o5 o6 o7 o8 m_text m_size m_harbour m_now m_undone m_undos m_one m_two m_three m_chalks m_cb m_co m_trace m_kept vv1 X hl0 C V r q_m_at q_m_begin q_m_token q_m_told q_m_read hE 400 vv4 vv5 vv6 vv7 m_read 0 hs
    · have hs := tg_nf cc9 hs
      refine tg_iconst (v := 0) C dX5_readDie_32 (by decide) ?_
      obtain ⟨rfl, rfl, rfl, rfl, rfl, rfl⟩ := tg_i6 hs
      exact tg_iret hE rfl dX5_readDie_33
set_option maxHeartbeats 2000000 in
set_option maxRecDepth 20000 in
theorem kX5_readDie (l : Launch) (D : tg_D) (o0 o1 o2 o3 o4 o5 o6 o7 o8 : Nat) (m_text : Nat → Int32) (m_size : Int32) (m_at : Int32) (m_begin : Int32) (m_token : Int32) (m_told : Int32) (m_read : Nat → Int32) (m_harbour : Nat → Int32) (m_now : Nat → Int32) (m_undone : Nat → Int32) (m_undos : Int32) (m_one : Int32) (m_two : Int32) (m_three : Int32) (m_chalks : Int32) (m_cb : Nat → Int32) (m_co : Nat → Int32) (m_trace : Int64) (m_kept : Nat → Int32) (r : Int32) (q_m_at : Int32) (q_m_begin : Int32) (q_m_token : Int32) (q_m_told : Int32) (q_m_read : Nat → Int32) (hs : fX5_readDie m_text m_size m_at m_begin m_token m_told m_read = some (r, q_m_at, q_m_begin, q_m_token, q_m_told, q_m_read)) : Met l yX5_readDie [Cond.code yX5_readDie cX5_readDie 3 (some .boolean)] (tg_rm 5 108) (tg_Pre D (tw_M D o0 o1 o2 o3 o4 o5 o6 o7 o8 m_text m_size m_at m_begin m_token m_told m_read m_harbour m_now m_undone m_undos m_one m_two m_three m_chalks m_cb m_co m_trace m_kept) [.ref o0]) (tg_Qe (some (.int r)) D (tw_M D o0 o1 o2 o3 o4 o5 o6 o7 o8 m_text m_size q_m_at q_m_begin q_m_token q_m_told q_m_read m_harbour m_now m_undone m_undos m_one m_two m_three m_chalks m_cb m_co m_trace m_kept) (tg_Ad (tw_M D o0 o1 o2 o3 o4 o5 o6 o7 o8 m_text m_size m_at m_begin m_token m_told m_read m_harbour m_now m_undone m_undos m_one m_two m_three m_chalks m_cb m_co m_trace m_kept))) 0 0 (tg_Ad (tw_M D o0 o1 o2 o3 o4 o5 o6 o7 o8 m_text m_size m_at m_begin m_token m_told m_read m_harbour m_now m_undone m_undos m_one m_two m_three m_chalks m_cb m_co m_trace m_kept)) := tg_metEi (by decide) (Nat.le_of_ble_eq_true rfl) (fun X hl0 C V hE => vX5_readDie l D o0 o1 o2 o3 o4 o5 o6 o7 o8 m_text m_size m_at m_begin m_token m_told m_read m_harbour m_now m_undone m_undos m_one m_two m_three m_chalks m_cb m_co m_trace m_kept X hl0 C V r q_m_at q_m_begin q_m_token q_m_told q_m_read hs hE)
def fX5_once (m_text : Nat → Int32) (m_size : Int32) (m_at : Int32) (m_begin : Int32) (m_token : Int32) (m_told : Int32) (m_read : Nat → Int32) (p1 : Int32) (p2 : Int32) (p3 : Int32) (p4 : Int32) : Option (Int32 × Int32 × Int32 × Int32 × Int32 × (Nat → Int32)) := if ¬ ((m_read 3) &&& p1) = 0 then (some (0, m_at, m_begin, m_token, m_told, m_read)) else (tg_b5 (fX5_number m_text m_size m_at m_told p3 p4) fun rr2 vv3 vv4 vv5 vv6 => if ¬ rr2 = 0 then (tg_nm ((m_read 3) ||| p1) fun vv9 => tg_nm (upd m_read 3 vv9) fun gg10 => tg_ck p2 25 <| tg_nm (upd gg10 (Int32.toNatClampNeg p2) vv6) fun gg11 => tg_b4 (fX5_reads m_text m_size vv3 vv6) fun vv13 vv14 vv15 vv16 => if ¬ vv15 = 3 then (some (0, vv13, vv14, vv15, vv16, gg11)) else (some (1, vv13, vv14, vv15, vv16, gg11))) else (some (0, vv3, vv4, vv5, vv6, m_read)))
set_option maxHeartbeats 2000000 in
set_option maxRecDepth 20000 in
theorem vX5_once (l : Launch) (D : tg_D) (o0 o1 o2 o3 o4 o5 o6 o7 o8 : Nat) (m_text : Nat → Int32) (m_size : Int32) (m_at : Int32) (m_begin : Int32) (m_token : Int32) (m_told : Int32) (m_read : Nat → Int32) (m_harbour : Nat → Int32) (m_now : Nat → Int32) (m_undone : Nat → Int32) (m_undos : Int32) (m_one : Int32) (m_two : Int32) (m_three : Int32) (m_chalks : Int32) (m_cb : Nat → Int32) (m_co : Nat → Int32) (m_trace : Int64) (m_kept : Nat → Int32) (p1 : Int32) (p2 : Int32) (p3 : Int32) (p4 : Int32) (X : tg_X) (hl0 : tg_l X = l) (C : tg_C X D 5 cX5_once RX5 5 108 0 0) (V : tg_V X) (r : Int32) (q_m_at : Int32) (q_m_begin : Int32) (q_m_token : Int32) (q_m_told : Int32) (q_m_read : Nat → Int32) (hs : fX5_once m_text m_size m_at m_begin m_token m_told m_read p1 p2 p3 p4 = some (r, q_m_at, q_m_begin, q_m_token, q_m_told, q_m_read)) (hE : tg_Ei X D 0 0 cX5_once .boolean r (tw_M D o0 o1 o2 o3 o4 o5 o6 o7 o8 m_text m_size q_m_at q_m_begin q_m_token q_m_told q_m_read m_harbour m_now m_undone m_undos m_one m_two m_three m_chalks m_cb m_co m_trace m_kept)) : tg_G X D 5 0 0 (tw_M D o0 o1 o2 o3 o4 o5 o6 o7 o8 m_text m_size m_at m_begin m_token m_told m_read m_harbour m_now m_undone m_undos m_one m_two m_three m_chalks m_cb m_co m_trace m_kept) [(0, .ref o0), (1, .int p1), (2, .int p2), (3, .int p3), (4, .int p4)] 0 [] := by
  unfold fX5_once at hs
  refine tg_aload_n C dX5_once_0 rfl 0 rfl ?_
  refine tg_get (v := .ref o2) C cfX5 0 rfl 6 (by decide) wm_711 rfl dX5_once_1 ?_
  refine tg_iconst (v := 3) C dX5_once_4 (by decide) ?_
  refine tg_iald C 2 0 rfl rfl (tg_vin (by decide)) dX5_once_5 ?_
  refine tg_topi (y := m_read 3) rfl ?_
  refine tg_iload_n C dX5_once_6 rfl 1 rfl ?_
  refine tg_iand C dX5_once_7 ?_
  refine tg_if_ne (tgt := 21) C dX5_once_8 (by decide) (fun cc1 => ?_) (fun cc1 => ?_)
  · have hs := tg_t cc1 hs
    refine tg_iconst (v := 0) C dX5_once_21 (by decide) ?_
    obtain ⟨rfl, rfl, rfl, rfl, rfl, rfl⟩ := tg_i6 hs
    exact tg_iret hE rfl dX5_once_22
  · have hs := tg_nf cc1 hs
    refine tg_aload_n C dX5_once_11 rfl 0 rfl ?_
    refine tg_iload_n C dX5_once_12 rfl 3 rfl ?_
    refine tg_iload C dX5_once_13 4 rfl ?_
    obtain ⟨rr2, vv3, vv4, vv5, vv6, ee7, hs⟩ := tg_b5_e hs
    refine tg_eVs (ws' := (tw_M D o0 o1 o2 o3 o4 o5 o6 o7 o8 m_text m_size vv3 vv4 vv5 vv6 m_read m_harbour m_now m_undone m_undos m_one m_two m_three m_chalks m_cb m_co m_trace m_kept)) (As := [.int p3, .int p4]) (rest := []) C V hl0 (kX5_number l D o0 o1 o2 o3 o4 o5 o6 o7 o8 m_text m_size m_at m_begin m_token m_told m_read m_harbour m_now m_undone m_undos m_one m_two m_three m_chalks m_cb m_co m_trace m_kept p3 p4 rr2 vv3 vv4 vv5 vv6 ee7) wm_809 meX5_number (by decide) rfl rfl rfl rfl (Nat.le_of_ble_eq_true rfl) rfl dX5_once_15 ?_
    refine tg_if_ne (tgt := 23) C dX5_once_18 (by decide) (fun cc8 => ?_) (fun cc8 => ?_)
    · have hs := tg_t cc8 hs
      refine tg_aload_n C dX5_once_23 rfl 0 rfl ?_
      refine tg_get (v := .ref o2) C cfX5 0 rfl 6 (by decide) wm_711 rfl dX5_once_24 ?_
      refine tg_iconst (v := 3) C dX5_once_27 (by decide) ?_
      refine tg_dup2 C dX5_once_28 rfl rfl ?_
      refine tg_iald C 2 0 rfl rfl (tg_vin (by decide)) dX5_once_29 ?_
      refine tg_topi (y := m_read 3) rfl ?_
      refine tg_iload_n C dX5_once_30 rfl 1 rfl ?_
      refine tg_ior C dX5_once_31 ?_
      obtain ⟨vv9, evv9, hs⟩ := tg_nm_e hs
      refine tg_topi evv9 ?_
      obtain ⟨gg10, egg10, hs⟩ := tg_nm_e hs
      refine tg_iast (ws' := (tw_M D o0 o1 o2 o3 o4 o5 o6 o7 o8 m_text m_size vv3 vv4 vv5 vv6 gg10 m_harbour m_now m_undone m_undos m_one m_two m_three m_chalks m_cb m_co m_trace m_kept)) C V 2 0 rfl rfl (tg_vin (by decide)) (by rw [egg10]; rfl) rfl dX5_once_32 ?_
      refine tg_aload_n C dX5_once_33 rfl 0 rfl ?_
      refine tg_get (v := .ref o2) C cfX5 0 rfl 6 (by decide) wm_711 rfl dX5_once_34 ?_
      refine tg_iload_n C dX5_once_37 rfl 2 rfl ?_
      refine tg_aload_n C dX5_once_38 rfl 0 rfl ?_
      refine tg_get (v := .int vv6) C cfX5 0 rfl 5 (by decide) wm_710 rfl dX5_once_39 ?_
      obtain ⟨hh12, hs⟩ := tg_ck_e hs
      obtain ⟨gg11, egg11, hs⟩ := tg_nm_e hs
      refine tg_iast (ws' := (tw_M D o0 o1 o2 o3 o4 o5 o6 o7 o8 m_text m_size vv3 vv4 vv5 vv6 gg11 m_harbour m_now m_undone m_undos m_one m_two m_three m_chalks m_cb m_co m_trace m_kept)) C V 2 0 rfl rfl hh12 egg11 rfl dX5_once_42 ?_
      refine tg_aload_n C dX5_once_43 rfl 0 rfl ?_
      obtain ⟨vv13, vv14, vv15, vv16, ee17, hs⟩ := tg_b4_e hs
      refine tg_eVs (ws' := (tw_M D o0 o1 o2 o3 o4 o5 o6 o7 o8 m_text m_size vv13 vv14 vv15 vv16 gg11 m_harbour m_now m_undone m_undos m_one m_two m_three m_chalks m_cb m_co m_trace m_kept)) (As := []) (rest := []) C V hl0 (kX5_reads l D o0 o1 o2 o3 o4 o5 o6 o7 o8 m_text m_size vv3 vv4 vv5 vv6 gg11 m_harbour m_now m_undone m_undos m_one m_two m_three m_chalks m_cb m_co m_trace m_kept vv13 vv14 vv15 vv16 ee17) wm_779 meX5_reads (by decide) rfl rfl rfl rfl (Nat.le_of_ble_eq_true rfl) rfl dX5_once_44 ?_
      refine tg_aload_n C dX5_once_47 rfl 0 rfl ?_
      refine tg_get (v := .int vv15) C cfX5 0 rfl 4 (by decide) wm_709 rfl dX5_once_48 ?_
      refine tg_iconst (v := 3) C dX5_once_51 (by decide) ?_
      refine tg_icmp_ne (tgt := 59) C dX5_once_52 (by decide) (fun cc18 => ?_) (fun cc18 => ?_)
      · have hs := tg_t cc18 hs
        refine tg_iconst (v := 0) C dX5_once_59 (by decide) ?_
        obtain ⟨rfl, rfl, rfl, rfl, rfl, rfl⟩ := tg_i6 hs
        exact tg_iret hE rfl dX5_once_60
      · have hs := tg_nf cc18 hs
        refine tg_iconst (v := 1) C dX5_once_55 (by decide) ?_
        refine tg_goto (tgt := 60) C dX5_once_56 (by decide) ?_
        obtain ⟨rfl, rfl, rfl, rfl, rfl, rfl⟩ := tg_i6 hs
        exact tg_iret hE rfl dX5_once_60
    · have hs := tg_nf cc8 hs
      refine tg_iconst (v := 0) C dX5_once_21 (by decide) ?_
      obtain ⟨rfl, rfl, rfl, rfl, rfl, rfl⟩ := tg_i6 hs
      exact tg_iret hE rfl dX5_once_22
set_option maxHeartbeats 2000000 in
set_option maxRecDepth 20000 in
theorem kX5_once (l : Launch) (D : tg_D) (o0 o1 o2 o3 o4 o5 o6 o7 o8 : Nat) (m_text : Nat → Int32) (m_size : Int32) (m_at : Int32) (m_begin : Int32) (m_token : Int32) (m_told : Int32) (m_read : Nat → Int32) (m_harbour : Nat → Int32) (m_now : Nat → Int32) (m_undone : Nat → Int32) (m_undos : Int32) (m_one : Int32) (m_two : Int32) (m_three : Int32) (m_chalks : Int32) (m_cb : Nat → Int32) (m_co : Nat → Int32) (m_trace : Int64) (m_kept : Nat → Int32) (p1 : Int32) (p2 : Int32) (p3 : Int32) (p4 : Int32) (r : Int32) (q_m_at : Int32) (q_m_begin : Int32) (q_m_token : Int32) (q_m_told : Int32) (q_m_read : Nat → Int32) (hs : fX5_once m_text m_size m_at m_begin m_token m_told m_read p1 p2 p3 p4 = some (r, q_m_at, q_m_begin, q_m_token, q_m_told, q_m_read)) : Met l yX5_once [Cond.code yX5_once cX5_once 5 (some .boolean)] (tg_rm 5 108) (tg_Pre D (tw_M D o0 o1 o2 o3 o4 o5 o6 o7 o8 m_text m_size m_at m_begin m_token m_told m_read m_harbour m_now m_undone m_undos m_one m_two m_three m_chalks m_cb m_co m_trace m_kept) [.ref o0, .int p1, .int p2, .int p3, .int p4]) (tg_Qe (some (.int r)) D (tw_M D o0 o1 o2 o3 o4 o5 o6 o7 o8 m_text m_size q_m_at q_m_begin q_m_token q_m_told q_m_read m_harbour m_now m_undone m_undos m_one m_two m_three m_chalks m_cb m_co m_trace m_kept) (tg_Ad (tw_M D o0 o1 o2 o3 o4 o5 o6 o7 o8 m_text m_size m_at m_begin m_token m_told m_read m_harbour m_now m_undone m_undos m_one m_two m_three m_chalks m_cb m_co m_trace m_kept))) 0 0 (tg_Ad (tw_M D o0 o1 o2 o3 o4 o5 o6 o7 o8 m_text m_size m_at m_begin m_token m_told m_read m_harbour m_now m_undone m_undos m_one m_two m_three m_chalks m_cb m_co m_trace m_kept)) := tg_metEi (by decide) (Nat.le_of_ble_eq_true rfl) (fun X hl0 C V hE => vX5_once l D o0 o1 o2 o3 o4 o5 o6 o7 o8 m_text m_size m_at m_begin m_token m_told m_read m_harbour m_now m_undone m_undos m_one m_two m_three m_chalks m_cb m_co m_trace m_kept p1 p2 p3 p4 X hl0 C V r q_m_at q_m_begin q_m_token q_m_told q_m_read hs hE)
def fX5_readItem (m_text : Nat → Int32) (m_size : Int32) (m_at : Int32) (m_begin : Int32) (m_token : Int32) (m_told : Int32) (m_read : Nat → Int32) : Option (Int32 × Int32 × Int32 × Int32 × Int32 × (Nat → Int32)) := if m_token = 1 then (if ¬ m_told = 100 then (if ¬ m_told = 98 then (tg_b6 (fX5_once m_text m_size m_at m_begin m_token m_told m_read 2 1 1 9) fun rr4 vv5 vv6 vv7 vv8 gg9 => tg_bz rr4 <| some (rr4, vv5, vv6, vv7, vv8, gg9)) else (tg_b6 (fX5_once m_text m_size m_at m_begin m_token m_told m_read 1 0 3 18) fun rr12 vv13 vv14 vv15 vv16 gg17 => tg_bz rr12 <| some (rr12, vv13, vv14, vv15, vv16, gg17))) else (tg_b6 (fX5_readDie m_text m_size m_at m_begin m_token m_told m_read) fun rr20 vv21 vv22 vv23 vv24 gg25 => tg_bz rr20 <| some (rr20, vv21, vv22, vv23, vv24, gg25))) else (some (0, m_at, m_begin, m_token, m_told, m_read))
set_option maxHeartbeats 2000000 in
set_option maxRecDepth 20000 in
theorem vX5_readItem (l : Launch) (D : tg_D) (o0 o1 o2 o3 o4 o5 o6 o7 o8 : Nat) (m_text : Nat → Int32) (m_size : Int32) (m_at : Int32) (m_begin : Int32) (m_token : Int32) (m_told : Int32) (m_read : Nat → Int32) (m_harbour : Nat → Int32) (m_now : Nat → Int32) (m_undone : Nat → Int32) (m_undos : Int32) (m_one : Int32) (m_two : Int32) (m_three : Int32) (m_chalks : Int32) (m_cb : Nat → Int32) (m_co : Nat → Int32) (m_trace : Int64) (m_kept : Nat → Int32) (X : tg_X) (hl0 : tg_l X = l) (C : tg_C X D 1 cX5_readItem RX5 6 132 0 0) (V : tg_V X) (r : Int32) (q_m_at : Int32) (q_m_begin : Int32) (q_m_token : Int32) (q_m_told : Int32) (q_m_read : Nat → Int32) (hs : fX5_readItem m_text m_size m_at m_begin m_token m_told m_read = some (r, q_m_at, q_m_begin, q_m_token, q_m_told, q_m_read)) (hE : tg_Ei X D 0 0 cX5_readItem .boolean r (tw_M D o0 o1 o2 o3 o4 o5 o6 o7 o8 m_text m_size q_m_at q_m_begin q_m_token q_m_told q_m_read m_harbour m_now m_undone m_undos m_one m_two m_three m_chalks m_cb m_co m_trace m_kept)) : tg_G X D 1 0 0 (tw_M D o0 o1 o2 o3 o4 o5 o6 o7 o8 m_text m_size m_at m_begin m_token m_told m_read m_harbour m_now m_undone m_undos m_one m_two m_three m_chalks m_cb m_co m_trace m_kept) [(0, .ref o0)] 0 [] := by
  unfold fX5_readItem at hs
  refine tg_aload_n C dX5_readItem_0 rfl 0 rfl ?_
  refine tg_get (v := .int m_token) C cfX5 0 rfl 4 (by decide) wm_709 rfl dX5_readItem_1 ?_
  refine tg_iconst (v := 1) C dX5_readItem_4 (by decide) ?_
  refine tg_icmp_eq (tgt := 10) C dX5_readItem_5 (by decide) (fun cc1 => ?_) (fun cc1 => ?_)
  · have hs := tg_t cc1 hs
    refine tg_aload_n C dX5_readItem_10 rfl 0 rfl ?_
    refine tg_get (v := .int m_told) C cfX5 0 rfl 5 (by decide) wm_710 rfl dX5_readItem_11 ?_
    refine tg_bipush (v := 100) C dX5_readItem_14 (by decide) ?_
    refine tg_icmp_ne (tgt := 26) C dX5_readItem_16 (by decide) (fun cc2 => ?_) (fun cc2 => ?_)
    · have hs := tg_t cc2 hs
      refine tg_aload_n C dX5_readItem_26 rfl 0 rfl ?_
      refine tg_get (v := .int m_told) C cfX5 0 rfl 5 (by decide) wm_710 rfl dX5_readItem_27 ?_
      refine tg_bipush (v := 98) C dX5_readItem_30 (by decide) ?_
      refine tg_icmp_ne (tgt := 47) C dX5_readItem_32 (by decide) (fun cc3 => ?_) (fun cc3 => ?_)
      · have hs := tg_t cc3 hs
        refine tg_aload_n C dX5_readItem_47 rfl 0 rfl ?_
        refine tg_iconst (v := 2) C dX5_readItem_48 (by decide) ?_
        refine tg_iconst (v := 1) C dX5_readItem_49 (by decide) ?_
        refine tg_iconst (v := 1) C dX5_readItem_50 (by decide) ?_
        refine tg_bipush (v := 9) C dX5_readItem_51 (by decide) ?_
        obtain ⟨rr4, vv5, vv6, vv7, vv8, gg9, ee10, hs⟩ := tg_b6_e hs
        refine tg_eVs (ws' := (tw_M D o0 o1 o2 o3 o4 o5 o6 o7 o8 m_text m_size vv5 vv6 vv7 vv8 gg9 m_harbour m_now m_undone m_undos m_one m_two m_three m_chalks m_cb m_co m_trace m_kept)) (As := [.int 2, .int 1, .int 1, .int 9]) (rest := []) C V hl0 (kX5_once l D o0 o1 o2 o3 o4 o5 o6 o7 o8 m_text m_size m_at m_begin m_token m_told m_read m_harbour m_now m_undone m_undos m_one m_two m_three m_chalks m_cb m_co m_trace m_kept 2 1 1 9 rr4 vv5 vv6 vv7 vv8 gg9 ee10) wm_814 meX5_once (by decide) rfl rfl rfl rfl (Nat.le_of_ble_eq_true rfl) rfl dX5_readItem_53 ?_
        obtain ⟨hh11, hs⟩ := tg_bz_e hs
        obtain ⟨rfl, rfl, rfl, rfl, rfl, rfl⟩ := tg_i6 hs
        exact tg_iret hE hh11 dX5_readItem_56
      · have hs := tg_nf cc3 hs
        refine tg_aload_n C dX5_readItem_35 rfl 0 rfl ?_
        refine tg_iconst (v := 1) C dX5_readItem_36 (by decide) ?_
        refine tg_iconst (v := 0) C dX5_readItem_37 (by decide) ?_
        refine tg_iconst (v := 3) C dX5_readItem_38 (by decide) ?_
        refine tg_bipush (v := 18) C dX5_readItem_39 (by decide) ?_
        obtain ⟨rr12, vv13, vv14, vv15, vv16, gg17, ee18, hs⟩ := tg_b6_e hs
        refine tg_eVs (ws' := (tw_M D o0 o1 o2 o3 o4 o5 o6 o7 o8 m_text m_size vv13 vv14 vv15 vv16 gg17 m_harbour m_now m_undone m_undos m_one m_two m_three m_chalks m_cb m_co m_trace m_kept)) (As := [.int 1, .int 0, .int 3, .int 18]) (rest := []) C V hl0 (kX5_once l D o0 o1 o2 o3 o4 o5 o6 o7 o8 m_text m_size m_at m_begin m_token m_told m_read m_harbour m_now m_undone m_undos m_one m_two m_three m_chalks m_cb m_co m_trace m_kept 1 0 3 18 rr12 vv13 vv14 vv15 vv16 gg17 ee18) wm_814 meX5_once (by decide) rfl rfl rfl rfl (Nat.le_of_ble_eq_true rfl) rfl dX5_readItem_41 ?_
        refine tg_goto (tgt := 56) C dX5_readItem_44 (by decide) ?_
        obtain ⟨hh19, hs⟩ := tg_bz_e hs
        obtain ⟨rfl, rfl, rfl, rfl, rfl, rfl⟩ := tg_i6 hs
        exact tg_iret hE hh19 dX5_readItem_56
    · have hs := tg_nf cc2 hs
      refine tg_aload_n C dX5_readItem_19 rfl 0 rfl ?_
      obtain ⟨rr20, vv21, vv22, vv23, vv24, gg25, ee26, hs⟩ := tg_b6_e hs
      refine tg_eVs (ws' := (tw_M D o0 o1 o2 o3 o4 o5 o6 o7 o8 m_text m_size vv21 vv22 vv23 vv24 gg25 m_harbour m_now m_undone m_undos m_one m_two m_three m_chalks m_cb m_co m_trace m_kept)) (As := []) (rest := []) C V hl0 (kX5_readDie l D o0 o1 o2 o3 o4 o5 o6 o7 o8 m_text m_size m_at m_begin m_token m_told m_read m_harbour m_now m_undone m_undos m_one m_two m_three m_chalks m_cb m_co m_trace m_kept rr20 vv21 vv22 vv23 vv24 gg25 ee26) wm_805 meX5_readDie (by decide) rfl rfl rfl rfl (Nat.le_of_ble_eq_true rfl) rfl dX5_readItem_20 ?_
      refine tg_goto (tgt := 56) C dX5_readItem_23 (by decide) ?_
      obtain ⟨hh27, hs⟩ := tg_bz_e hs
      obtain ⟨rfl, rfl, rfl, rfl, rfl, rfl⟩ := tg_i6 hs
      exact tg_iret hE hh27 dX5_readItem_56
  · have hs := tg_f cc1 hs
    refine tg_iconst (v := 0) C dX5_readItem_8 (by decide) ?_
    obtain ⟨rfl, rfl, rfl, rfl, rfl, rfl⟩ := tg_i6 hs
    exact tg_iret hE rfl dX5_readItem_9
set_option maxHeartbeats 2000000 in
set_option maxRecDepth 20000 in
theorem kX5_readItem (l : Launch) (D : tg_D) (o0 o1 o2 o3 o4 o5 o6 o7 o8 : Nat) (m_text : Nat → Int32) (m_size : Int32) (m_at : Int32) (m_begin : Int32) (m_token : Int32) (m_told : Int32) (m_read : Nat → Int32) (m_harbour : Nat → Int32) (m_now : Nat → Int32) (m_undone : Nat → Int32) (m_undos : Int32) (m_one : Int32) (m_two : Int32) (m_three : Int32) (m_chalks : Int32) (m_cb : Nat → Int32) (m_co : Nat → Int32) (m_trace : Int64) (m_kept : Nat → Int32) (r : Int32) (q_m_at : Int32) (q_m_begin : Int32) (q_m_token : Int32) (q_m_told : Int32) (q_m_read : Nat → Int32) (hs : fX5_readItem m_text m_size m_at m_begin m_token m_told m_read = some (r, q_m_at, q_m_begin, q_m_token, q_m_told, q_m_read)) : Met l yX5_readItem [Cond.code yX5_readItem cX5_readItem 1 (some .boolean)] (tg_rm 6 132) (tg_Pre D (tw_M D o0 o1 o2 o3 o4 o5 o6 o7 o8 m_text m_size m_at m_begin m_token m_told m_read m_harbour m_now m_undone m_undos m_one m_two m_three m_chalks m_cb m_co m_trace m_kept) [.ref o0]) (tg_Qe (some (.int r)) D (tw_M D o0 o1 o2 o3 o4 o5 o6 o7 o8 m_text m_size q_m_at q_m_begin q_m_token q_m_told q_m_read m_harbour m_now m_undone m_undos m_one m_two m_three m_chalks m_cb m_co m_trace m_kept) (tg_Ad (tw_M D o0 o1 o2 o3 o4 o5 o6 o7 o8 m_text m_size m_at m_begin m_token m_told m_read m_harbour m_now m_undone m_undos m_one m_two m_three m_chalks m_cb m_co m_trace m_kept))) 0 0 (tg_Ad (tw_M D o0 o1 o2 o3 o4 o5 o6 o7 o8 m_text m_size m_at m_begin m_token m_told m_read m_harbour m_now m_undone m_undos m_one m_two m_three m_chalks m_cb m_co m_trace m_kept)) := tg_metEi (by decide) (Nat.le_of_ble_eq_true rfl) (fun X hl0 C V hE => vX5_readItem l D o0 o1 o2 o3 o4 o5 o6 o7 o8 m_text m_size m_at m_begin m_token m_told m_read m_harbour m_now m_undone m_undos m_one m_two m_three m_chalks m_cb m_co m_trace m_kept X hl0 C V r q_m_at q_m_begin q_m_token q_m_told q_m_read hs hE)
