def fX5_berth (m_harbour : Nat → Int32) (m_now : Nat → Int32) (p1 : Int32) : Option (Int32) := tg_b1 (fX5_isBerth m_harbour p1) fun rr1 => if rr1 = 0 then (some (-1)) else (tg_ck (8 + p1) 27 <| some (m_now (Int32.toNatClampNeg (8 + p1))))
set_option maxHeartbeats 2000000 in
set_option maxRecDepth 20000 in
theorem vX5_berth (l : Launch) (D : tg_D) (o0 o1 o2 o3 o4 o5 o6 o7 o8 : Nat) (m_text : Nat → Int32) (m_size : Int32) (m_at : Int32) (m_begin : Int32) (m_token : Int32) (m_told : Int32) (m_read : Nat → Int32) (m_harbour : Nat → Int32) (m_now : Nat → Int32) (m_undone : Nat → Int32) (m_undos : Int32) (m_one : Int32) (m_two : Int32) (m_three : Int32) (m_chalks : Int32) (m_cb : Nat → Int32) (m_co : Nat → Int32) (m_trace : Int64) (m_kept : Nat → Int32) (p1 : Int32) (X : tg_X) (hl0 : tg_l X = l) (C : tg_C X D 2 cX5_berth RX5 2 46 0 0) (r : Int32) (hs : fX5_berth m_harbour m_now p1 = some r) (hE : tg_Ei X D 0 0 cX5_berth .int r (tw_M D o0 o1 o2 o3 o4 o5 o6 o7 o8 m_text m_size m_at m_begin m_token m_told m_read m_harbour m_now m_undone m_undos m_one m_two m_three m_chalks m_cb m_co m_trace m_kept)) : tg_G X D 2 0 0 (tw_M D o0 o1 o2 o3 o4 o5 o6 o7 o8 m_text m_size m_at m_begin m_token m_told m_read m_harbour m_now m_undone m_undos m_one m_two m_three m_chalks m_cb m_co m_trace m_kept) [(0, .ref o0), (1, .int p1)] 0 [] := by
  unfold fX5_berth at hs
  refine tg_aload_n C dX5_berth_0 rfl 0 rfl ?_
  refine tg_iload_n C dX5_berth_1 rfl 1 rfl ?_
  obtain ⟨rr1, ee2, hs⟩ := tg_b1_e hs
  refine tg_pVs (As := [.int p1]) (rest := []) C hl0 (kX5_isBerth l D o0 o1 o2 o3 o4 o5 o6 o7 o8 m_text m_size m_at m_begin m_token m_told m_read m_harbour m_now m_undone m_undos m_one m_two m_three m_chalks m_cb m_co m_trace m_kept p1 rr1 ee2) wm_839 meX5_isBerth (by decide) rfl rfl rfl rfl (Nat.le_of_ble_eq_true rfl) dX5_berth_2 ?_
  refine tg_if_eq (tgt := 20) C dX5_berth_5 (by decide) (fun cc3 => ?_) (fun cc3 => ?_)
  · have hs := tg_t cc3 hs
    refine tg_iconst (v := (-1)) C dX5_berth_20 (by decide) ?_
    obtain rfl := Option.some.inj hs
    exact tg_iret hE rfl dX5_berth_21
  · have hs := tg_f cc3 hs
    refine tg_aload_n C dX5_berth_8 rfl 0 rfl ?_
    refine tg_get (v := .ref o4) C cfX5 0 rfl 8 (by decide) wm_713 rfl dX5_berth_9 ?_
    refine tg_bipush (v := 8) C dX5_berth_12 (by decide) ?_
    refine tg_iload_n C dX5_berth_14 rfl 1 rfl ?_
    refine tg_iadd C dX5_berth_15 ?_
    obtain ⟨hh4, hs⟩ := tg_ck_e hs
    refine tg_iald C 4 0 rfl rfl hh4 dX5_berth_16 ?_
    refine tg_goto (tgt := 21) C dX5_berth_17 (by decide) ?_
    obtain rfl := Option.some.inj hs
    exact tg_iret hE rfl dX5_berth_21
set_option maxHeartbeats 2000000 in
set_option maxRecDepth 20000 in
theorem kX5_berth (l : Launch) (D : tg_D) (o0 o1 o2 o3 o4 o5 o6 o7 o8 : Nat) (m_text : Nat → Int32) (m_size : Int32) (m_at : Int32) (m_begin : Int32) (m_token : Int32) (m_told : Int32) (m_read : Nat → Int32) (m_harbour : Nat → Int32) (m_now : Nat → Int32) (m_undone : Nat → Int32) (m_undos : Int32) (m_one : Int32) (m_two : Int32) (m_three : Int32) (m_chalks : Int32) (m_cb : Nat → Int32) (m_co : Nat → Int32) (m_trace : Int64) (m_kept : Nat → Int32) (p1 : Int32) (r : Int32) (hs : fX5_berth m_harbour m_now p1 = some r) : Met l yX5_berth [Cond.code yX5_berth cX5_berth 2 (some .int)] (tg_rm 2 46) (tg_Pre D (tw_M D o0 o1 o2 o3 o4 o5 o6 o7 o8 m_text m_size m_at m_begin m_token m_told m_read m_harbour m_now m_undone m_undos m_one m_two m_three m_chalks m_cb m_co m_trace m_kept) [.ref o0, .int p1]) (vp_Si (fun r' => r' = r)) 0 0 (fun _ => False) := tg_metI (by decide) (Nat.le_of_ble_eq_true rfl) (fun X hl0 C hE => vX5_berth l D o0 o1 o2 o3 o4 o5 o6 o7 o8 m_text m_size m_at m_begin m_token m_told m_read m_harbour m_now m_undone m_undos m_one m_two m_three m_chalks m_cb m_co m_trace m_kept p1 X hl0 C r hs hE)
def fX5_berths_L4 (m_harbour : Nat → Int32) (m_now : Nat → Int32) (n1 : Int32) : Nat → Int32 → Int32 → Option (Int32 × Int32)
  | 0, _, _ => none
  | fuel + 1, n2, n3 => if (m_harbour 0) < n3 then (some (n2, n3)) else (tg_ck (8 + n3) 27 <| tg_b1 (if ¬ (m_now (Int32.toNatClampNeg (8 + n3))) = n1 then (some (0 : Int32)) else (some (1 <<< (n3 &&& 31)))) fun (vv4 : Int32) => tg_nm (n2 ||| vv4) fun vv6 => tg_nm (n3 + 1) fun vv7 => fX5_berths_L4 m_harbour m_now n1 fuel vv6 vv7)
def fX5_berths (m_harbour : Nat → Int32) (m_now : Nat → Int32) (p1 : Int32) : Option (Int32) := tg_b2 (fX5_berths_L4 m_harbour m_now p1 400 0 1) fun vv9 vv10 => some vv9
set_option maxHeartbeats 2000000 in
set_option maxRecDepth 20000 in
theorem vX5_berths_L4 (l : Launch) (D : tg_D) (o0 o1 o2 o3 o4 o5 o6 o7 o8 : Nat) (m_text : Nat → Int32) (m_size : Int32) (m_at : Int32) (m_begin : Int32) (m_token : Int32) (m_told : Int32) (m_read : Nat → Int32) (m_harbour : Nat → Int32) (m_now : Nat → Int32) (m_undone : Nat → Int32) (m_undos : Int32) (m_one : Int32) (m_two : Int32) (m_three : Int32) (m_chalks : Int32) (m_cb : Nat → Int32) (m_co : Nat → Int32) (m_trace : Int64) (m_kept : Nat → Int32) (n1 : Int32) (X : tg_X) (hl0 : tg_l X = l) (C : tg_C X D 4 cX5_berths RX5 0 0 0 0) (o_n2 : Int32) (o_n3 : Int32) : ∀ (fuel : Nat) (n2 : Int32) (n3 : Int32), fX5_berths_L4 m_harbour m_now n1 fuel n2 n3 = some (o_n2, o_n3) → tg_G X D 4 0 0 (tw_M D o0 o1 o2 o3 o4 o5 o6 o7 o8 m_text m_size m_at m_begin m_token m_told m_read m_harbour m_now m_undone m_undos m_one m_two m_three m_chalks m_cb m_co m_trace m_kept) [(0, .ref o0), (1, .int n1), (2, .int o_n2), (3, .int o_n3)] 43 [] → tg_G X D 4 0 0 (tw_M D o0 o1 o2 o3 o4 o5 o6 o7 o8 m_text m_size m_at m_begin m_token m_told m_read m_harbour m_now m_undone m_undos m_one m_two m_three m_chalks m_cb m_co m_trace m_kept) [(0, .ref o0), (1, .int n1), (2, .int n2), (3, .int n3)] 4 [] := by
  intro fuel
  induction fuel with
  | zero =>
    intro n2 n3 hs _
    rw [fX5_berths_L4] at hs
    cases hs
  | succ fuel ih =>
    intro n2 n3 hs J
    rw [fX5_berths_L4] at hs
    refine tg_iload_n C dX5_berths_4 rfl 3 rfl ?_
    refine tg_aload_n C dX5_berths_5 rfl 0 rfl ?_
    refine tg_get (v := .ref o3) C cfX5 0 rfl 7 (by decide) wm_712 rfl dX5_berths_6 ?_
    refine tg_iconst (v := 0) C dX5_berths_9 (by decide) ?_
    refine tg_iald C 3 0 rfl rfl (tg_vin (by decide)) dX5_berths_10 ?_
    refine tg_topi (y := m_harbour 0) rfl ?_
    refine tg_icmp_gt (tgt := 43) C dX5_berths_11 (by decide) (fun cc1 => ?_) (fun cc1 => ?_)
    · have hs := tg_t cc1 hs
      obtain ⟨rfl, rfl⟩ := tg_i2 hs
      exact J
    · have hs := tg_f cc1 hs
      refine tg_iload_n C dX5_berths_14 rfl 2 rfl ?_
      refine tg_aload_n C dX5_berths_15 rfl 0 rfl ?_
      refine tg_get (v := .ref o4) C cfX5 0 rfl 8 (by decide) wm_713 rfl dX5_berths_16 ?_
      refine tg_bipush (v := 8) C dX5_berths_19 (by decide) ?_
      refine tg_iload_n C dX5_berths_21 rfl 3 rfl ?_
      refine tg_iadd C dX5_berths_22 ?_
      obtain ⟨hh2, hs⟩ := tg_ck_e hs
      refine tg_iald C 4 0 rfl rfl hh2 dX5_berths_23 ?_
      refine tg_iload_n C dX5_berths_24 rfl 1 rfl ?_
      obtain ⟨vv4, ee8, hs⟩ := tg_b1_e hs
      have JJ5 : tg_G X D 4 0 0 (tw_M D o0 o1 o2 o3 o4 o5 o6 o7 o8 m_text m_size m_at m_begin m_token m_told m_read m_harbour m_now m_undone m_undos m_one m_two m_three m_chalks m_cb m_co m_trace m_kept) [(0, .ref o0), (1, .int n1), (2, .int n2), (3, .int n3)] 35 [.int vv4, .int n2] := by
        refine tg_ior C dX5_berths_35 ?_
        obtain ⟨vv6, evv6, hs⟩ := tg_nm_e hs
        refine tg_topi evv6 ?_
        refine tg_istore_n (lv' := [(2, .int vv6), (0, .ref o0), (1, .int n1), (3, .int n3)]) C dX5_berths_36 rfl (by decide) rfl ?_
        obtain ⟨vv7, evv7, hs⟩ := tg_nm_e hs
        refine tg_iinc (v := vv7) (lv' := [(3, .int vv7), (2, .int vv6), (0, .ref o0), (1, .int n1)]) C dX5_berths_37 3 rfl (by rw [evv7]; rfl) (by decide) rfl ?_
        refine tg_goto (tgt := 4) C dX5_berths_40 (by decide) ?_
        refine tg_lsub [2, 3, 1, 0] rfl ?_
        exact ih vv6 vv7 hs J
      have hs := ee8
      clear ee8
      refine tg_icmp_ne (tgt := 34) C dX5_berths_25 (by decide) (fun cc3 => ?_) (fun cc3 => ?_)
      · have hs := tg_t cc3 hs
        refine tg_iconst (v := 0) C dX5_berths_34 (by decide) ?_
        obtain rfl := Option.some.inj hs
        exact JJ5
      · have hs := tg_nf cc3 hs
        refine tg_iconst (v := 1) C dX5_berths_28 (by decide) ?_
        refine tg_iload_n C dX5_berths_29 rfl 3 rfl ?_
        refine tg_ishl C dX5_berths_30 ?_
        refine tg_goto (tgt := 35) C dX5_berths_31 (by decide) ?_
        obtain rfl := Option.some.inj hs
        exact JJ5
set_option maxHeartbeats 2000000 in
set_option maxRecDepth 20000 in
theorem vX5_berths (l : Launch) (D : tg_D) (o0 o1 o2 o3 o4 o5 o6 o7 o8 : Nat) (m_text : Nat → Int32) (m_size : Int32) (m_at : Int32) (m_begin : Int32) (m_token : Int32) (m_told : Int32) (m_read : Nat → Int32) (m_harbour : Nat → Int32) (m_now : Nat → Int32) (m_undone : Nat → Int32) (m_undos : Int32) (m_one : Int32) (m_two : Int32) (m_three : Int32) (m_chalks : Int32) (m_cb : Nat → Int32) (m_co : Nat → Int32) (m_trace : Int64) (m_kept : Nat → Int32) (p1 : Int32) (X : tg_X) (hl0 : tg_l X = l) (C : tg_C X D 4 cX5_berths RX5 0 0 0 0) (r : Int32) (hs : fX5_berths m_harbour m_now p1 = some r) (hE : tg_Ei X D 0 0 cX5_berths .int r (tw_M D o0 o1 o2 o3 o4 o5 o6 o7 o8 m_text m_size m_at m_begin m_token m_told m_read m_harbour m_now m_undone m_undos m_one m_two m_three m_chalks m_cb m_co m_trace m_kept)) : tg_G X D 4 0 0 (tw_M D o0 o1 o2 o3 o4 o5 o6 o7 o8 m_text m_size m_at m_begin m_token m_told m_read m_harbour m_now m_undone m_undos m_one m_two m_three m_chalks m_cb m_co m_trace m_kept) [(0, .ref o0), (1, .int p1)] 0 [] := by
  unfold fX5_berths at hs
  refine tg_iconst (v := 0) C dX5_berths_0 (by decide) ?_
  refine tg_istore_n (lv' := [(2, .int 0), (0, .ref o0), (1, .int p1)]) C dX5_berths_1 rfl (by decide) rfl ?_
  refine tg_iconst (v := 1) C dX5_berths_2 (by decide) ?_
  refine tg_istore_n (lv' := [(3, .int 1), (2, .int 0), (0, .ref o0), (1, .int p1)]) C dX5_berths_3 rfl (by decide) rfl ?_
  refine tg_lsub [2, 3, 1, 0] rfl ?_
  obtain ⟨vv9, vv10, ee11, hs⟩ := tg_b2_e hs
  refine vX5_berths_L4 l D o0 o1 o2 o3 o4 o5 o6 o7 o8 m_text m_size m_at m_begin m_token m_told m_read m_harbour m_now m_undone m_undos m_one m_two m_three m_chalks m_cb m_co m_trace m_kept p1 X hl0 C vv9 vv10 400 0 1 ee11 ?_
  refine tg_iload_n C dX5_berths_43 rfl 2 rfl ?_
  obtain rfl := Option.some.inj hs
  exact tg_iret hE rfl dX5_berths_44
set_option maxHeartbeats 2000000 in
set_option maxRecDepth 20000 in
theorem kX5_berths (l : Launch) (D : tg_D) (o0 o1 o2 o3 o4 o5 o6 o7 o8 : Nat) (m_text : Nat → Int32) (m_size : Int32) (m_at : Int32) (m_begin : Int32) (m_token : Int32) (m_told : Int32) (m_read : Nat → Int32) (m_harbour : Nat → Int32) (m_now : Nat → Int32) (m_undone : Nat → Int32) (m_undos : Int32) (m_one : Int32) (m_two : Int32) (m_three : Int32) (m_chalks : Int32) (m_cb : Nat → Int32) (m_co : Nat → Int32) (m_trace : Int64) (m_kept : Nat → Int32) (p1 : Int32) (r : Int32) (hs : fX5_berths m_harbour m_now p1 = some r) : Met l yX5_berths [Cond.code yX5_berths cX5_berths 4 (some .int)] (tg_rm 0 0) (tg_Pre D (tw_M D o0 o1 o2 o3 o4 o5 o6 o7 o8 m_text m_size m_at m_begin m_token m_told m_read m_harbour m_now m_undone m_undos m_one m_two m_three m_chalks m_cb m_co m_trace m_kept) [.ref o0, .int p1]) (vp_Si (fun r' => r' = r)) 0 0 (fun _ => False) := tg_metI (by decide) (Nat.le_of_ble_eq_true rfl) (fun X hl0 C hE => vX5_berths l D o0 o1 o2 o3 o4 o5 o6 o7 o8 m_text m_size m_at m_begin m_token m_told m_read m_harbour m_now m_undone m_undos m_one m_two m_three m_chalks m_cb m_co m_trace m_kept p1 X hl0 C r hs hE)
def fX5_many_L4 : Nat → Int32 → Int32 → Option (Int32 × Int32)
  | 0, _, _ => none
  | fuel + 1, n1, n2 => if n2 = 0 then (some (n1, n2)) else (tg_nm (n1 + 1) fun vv2 => tg_nm (n2 &&& (n2 - 1)) fun vv3 => fX5_many_L4 fuel vv2 vv3)
def fX5_many (p0 : Int32) : Option (Int32) := tg_b2 (fX5_many_L4 400 0 p0) fun vv4 vv5 => some vv4
set_option maxHeartbeats 2000000 in
set_option maxRecDepth 20000 in
theorem vX5_many_L4 (l : Launch) (D : tg_D) (n0 : Int32) (X : tg_X) (hl0 : tg_l X = l) (C : tg_C X D 3 cX5_many RX5 0 0 0 0) (o_n1 : Int32) (o_n2 : Int32) : ∀ (fuel : Nat) (n1 : Int32) (n2 : Int32), fX5_many_L4 fuel n1 n2 = some (o_n1, o_n2) → tg_G X D 3 0 0 [] [(0, .int n0), (1, .int o_n1), (2, .int o_n2)] 20 [] → tg_G X D 3 0 0 [] [(0, .int n0), (1, .int n1), (2, .int n2)] 4 [] := by
  intro fuel
  induction fuel with
  | zero =>
    intro n1 n2 hs _
    rw [fX5_many_L4] at hs
    cases hs
  | succ fuel ih =>
    intro n1 n2 hs J
    rw [fX5_many_L4] at hs
    refine tg_iload_n C dX5_many_4 rfl 2 rfl ?_
    refine tg_if_eq (tgt := 20) C dX5_many_5 (by decide) (fun cc1 => ?_) (fun cc1 => ?_)
    · have hs := tg_t cc1 hs
      obtain ⟨rfl, rfl⟩ := tg_i2 hs
      exact J
    · have hs := tg_f cc1 hs
      obtain ⟨vv2, evv2, hs⟩ := tg_nm_e hs
      refine tg_iinc (v := vv2) (lv' := [(1, .int vv2), (0, .int n0), (2, .int n2)]) C dX5_many_8 1 rfl (by rw [evv2]; rfl) (by decide) rfl ?_
      refine tg_iload_n C dX5_many_11 rfl 2 rfl ?_
      refine tg_iload_n C dX5_many_12 rfl 2 rfl ?_
      refine tg_iconst (v := 1) C dX5_many_13 (by decide) ?_
      refine tg_isub C dX5_many_14 ?_
      refine tg_iand C dX5_many_15 ?_
      obtain ⟨vv3, evv3, hs⟩ := tg_nm_e hs
      refine tg_topi evv3 ?_
      refine tg_istore_n (lv' := [(2, .int vv3), (1, .int vv2), (0, .int n0)]) C dX5_many_16 rfl (by decide) rfl ?_
      refine tg_goto (tgt := 4) C dX5_many_17 (by decide) ?_
      refine tg_lsub [2, 1, 0] rfl ?_
      exact ih vv2 vv3 hs J
set_option maxHeartbeats 2000000 in
set_option maxRecDepth 20000 in
theorem vX5_many (l : Launch) (D : tg_D) (p0 : Int32) (X : tg_X) (hl0 : tg_l X = l) (C : tg_C X D 3 cX5_many RX5 0 0 0 0) (r : Int32) (hs : fX5_many p0 = some r) (hE : tg_Ei X D 0 0 cX5_many .int r []) : tg_G X D 3 0 0 [] [(0, .int p0)] 0 [] := by
  unfold fX5_many at hs
  refine tg_iconst (v := 0) C dX5_many_0 (by decide) ?_
  refine tg_istore_n (lv' := [(1, .int 0), (0, .int p0)]) C dX5_many_1 rfl (by decide) rfl ?_
  refine tg_iload_n C dX5_many_2 rfl 1 rfl ?_
  refine tg_istore_n (lv' := [(2, .int p0), (1, .int 0), (0, .int p0)]) C dX5_many_3 rfl (by decide) rfl ?_
  refine tg_lsub [2, 1, 0] rfl ?_
  obtain ⟨vv4, vv5, ee6, hs⟩ := tg_b2_e hs
  refine vX5_many_L4 l D p0 X hl0 C vv4 vv5 400 0 p0 ee6 ?_
  refine tg_iload_n C dX5_many_20 rfl 1 rfl ?_
  obtain rfl := Option.some.inj hs
  exact tg_iret hE rfl dX5_many_21
set_option maxHeartbeats 2000000 in
set_option maxRecDepth 20000 in
theorem kX5_many (l : Launch) (D : tg_D) (p0 : Int32) (r : Int32) (hs : fX5_many p0 = some r) : Met l yX5_many [Cond.code yX5_many cX5_many 3 (some .int)] (tg_rm 0 0) (tg_Pre D [] [.int p0]) (vp_Si (fun r' => r' = r)) 0 0 (fun _ => False) := tg_metI (by decide) (Nat.le_of_ble_eq_true rfl) (fun X hl0 C hE => vX5_many l D p0 X hl0 C r hs hE)
def fX5_comes (m_harbour : Nat → Int32) (p1 : Int32) : Option (Int32 × Int32 × Int32) := tg_b1 (fX5_faces m_harbour 2) fun rr1 => tg_dz rr1 <| tg_b1 (fX5_faces m_harbour 1) fun rr4 => tg_dz rr4 <| tg_b1 (fX5_face m_harbour 0 ((p1 / rr1) / rr4)) fun rr7 => tg_dz rr1 <| tg_b1 (fX5_faces m_harbour 1) fun rr10 => tg_dz rr10 <| tg_b1 (fX5_face m_harbour 1 ((p1 / rr1) - (p1 / rr1) / rr10 * rr10)) fun rr13 => tg_dz rr1 <| tg_b1 (fX5_face m_harbour 2 (p1 - p1 / rr1 * rr1)) fun rr16 => some (rr7, rr13, rr16)
set_option maxHeartbeats 2000000 in
set_option maxRecDepth 20000 in
theorem vX5_comes (l : Launch) (D : tg_D) (o0 o1 o2 o3 o4 o5 o6 o7 o8 : Nat) (m_text : Nat → Int32) (m_size : Int32) (m_at : Int32) (m_begin : Int32) (m_token : Int32) (m_told : Int32) (m_read : Nat → Int32) (m_harbour : Nat → Int32) (m_now : Nat → Int32) (m_undone : Nat → Int32) (m_undos : Int32) (m_one : Int32) (m_two : Int32) (m_three : Int32) (m_chalks : Int32) (m_cb : Nat → Int32) (m_co : Nat → Int32) (m_trace : Int64) (m_kept : Nat → Int32) (p1 : Int32) (X : tg_X) (hl0 : tg_l X = l) (C : tg_C X D 3 cX5_comes RX5 1 22 0 0) (V : tg_V X) (q_m_one : Int32) (q_m_two : Int32) (q_m_three : Int32) (hs : fX5_comes m_harbour p1 = some (q_m_one, q_m_two, q_m_three)) (hE : tg_Ev X D 0 0 cX5_comes (tw_M D o0 o1 o2 o3 o4 o5 o6 o7 o8 m_text m_size m_at m_begin m_token m_told m_read m_harbour m_now m_undone m_undos q_m_one q_m_two q_m_three m_chalks m_cb m_co m_trace m_kept)) : tg_G X D 3 0 0 (tw_M D o0 o1 o2 o3 o4 o5 o6 o7 o8 m_text m_size m_at m_begin m_token m_told m_read m_harbour m_now m_undone m_undos m_one m_two m_three m_chalks m_cb m_co m_trace m_kept) [(0, .ref o0), (1, .int p1)] 0 [] := by
  unfold fX5_comes at hs
  refine tg_aload_n C dX5_comes_0 rfl 0 rfl ?_
  refine tg_iconst (v := 2) C dX5_comes_1 (by decide) ?_
  obtain ⟨rr1, ee2, hs⟩ := tg_b1_e hs
  refine tg_pVs (As := [.int 2]) (rest := []) C hl0 (kX5_faces l D o0 o1 o2 o3 o4 o5 o6 o7 o8 m_text m_size m_at m_begin m_token m_told m_read m_harbour m_now m_undone m_undos m_one m_two m_three m_chalks m_cb m_co m_trace m_kept 2 rr1 ee2) wm_827 meX5_faces (by decide) rfl rfl rfl rfl (Nat.le_of_ble_eq_true rfl) dX5_comes_2 ?_
  refine tg_istore_n (lv' := [(2, .int rr1), (0, .ref o0), (1, .int p1)]) C dX5_comes_5 rfl (by decide) rfl ?_
  refine tg_aload_n C dX5_comes_6 rfl 1 rfl ?_
  refine tg_aload_n C dX5_comes_7 rfl 1 rfl ?_
  refine tg_iconst (v := 0) C dX5_comes_8 (by decide) ?_
  refine tg_iload_n C dX5_comes_9 rfl 2 rfl ?_
  refine tg_iload_n C dX5_comes_10 rfl 0 rfl ?_
  obtain ⟨hh3, hs⟩ := tg_dz_e hs
  refine tg_idiv C hh3 dX5_comes_11 ?_
  refine tg_aload_n C dX5_comes_12 rfl 1 rfl ?_
  refine tg_iconst (v := 1) C dX5_comes_13 (by decide) ?_
  obtain ⟨rr4, ee5, hs⟩ := tg_b1_e hs
  refine tg_pVs (As := [.int 1]) (rest := [.int (p1 / rr1), .int 0, .ref o0, .ref o0]) C hl0 (kX5_faces l D o0 o1 o2 o3 o4 o5 o6 o7 o8 m_text m_size m_at m_begin m_token m_told m_read m_harbour m_now m_undone m_undos m_one m_two m_three m_chalks m_cb m_co m_trace m_kept 1 rr4 ee5) wm_827 meX5_faces (by decide) rfl rfl rfl rfl (Nat.le_of_ble_eq_true rfl) dX5_comes_14 ?_
  obtain ⟨hh6, hs⟩ := tg_dz_e hs
  refine tg_idiv C hh6 dX5_comes_17 ?_
  obtain ⟨rr7, ee8, hs⟩ := tg_b1_e hs
  refine tg_pVs (As := [.int 0, .int ((p1 / rr1) / rr4)]) (rest := [.ref o0]) C hl0 (kX5_face l D o0 o1 o2 o3 o4 o5 o6 o7 o8 m_text m_size m_at m_begin m_token m_told m_read m_harbour m_now m_undone m_undos m_one m_two m_three m_chalks m_cb m_co m_trace m_kept 0 ((p1 / rr1) / rr4) rr7 ee8) wm_831 meX5_face (by decide) rfl rfl rfl rfl (Nat.le_of_ble_eq_true rfl) dX5_comes_18 ?_
  refine tg_put (ws' := (tw_M D o0 o1 o2 o3 o4 o5 o6 o7 o8 m_text m_size m_at m_begin m_token m_told m_read m_harbour m_now m_undone m_undos rr7 m_two m_three m_chalks m_cb m_co m_trace m_kept)) C V cfX5 0 rfl 11 (by decide) wm_716 rfl rfl rfl (Nat.le_of_ble_eq_true rfl) rfl dX5_comes_21 ?_
  refine tg_aload_n C dX5_comes_24 rfl 1 rfl ?_
  refine tg_aload_n C dX5_comes_25 rfl 1 rfl ?_
  refine tg_iconst (v := 1) C dX5_comes_26 (by decide) ?_
  refine tg_iload_n C dX5_comes_27 rfl 2 rfl ?_
  refine tg_iload_n C dX5_comes_28 rfl 0 rfl ?_
  obtain ⟨hh9, hs⟩ := tg_dz_e hs
  refine tg_idiv C hh9 dX5_comes_29 ?_
  refine tg_aload_n C dX5_comes_30 rfl 1 rfl ?_
  refine tg_iconst (v := 1) C dX5_comes_31 (by decide) ?_
  obtain ⟨rr10, ee11, hs⟩ := tg_b1_e hs
  refine tg_pVs (As := [.int 1]) (rest := [.int (p1 / rr1), .int 1, .ref o0, .ref o0]) C hl0 (kX5_faces l D o0 o1 o2 o3 o4 o5 o6 o7 o8 m_text m_size m_at m_begin m_token m_told m_read m_harbour m_now m_undone m_undos rr7 m_two m_three m_chalks m_cb m_co m_trace m_kept 1 rr10 ee11) wm_827 meX5_faces (by decide) rfl rfl rfl rfl (Nat.le_of_ble_eq_true rfl) dX5_comes_32 ?_
  obtain ⟨hh12, hs⟩ := tg_dz_e hs
  refine tg_irem C hh12 dX5_comes_35 ?_
  obtain ⟨rr13, ee14, hs⟩ := tg_b1_e hs
  refine tg_pVs (As := [.int 1, .int ((p1 / rr1) - (p1 / rr1) / rr10 * rr10)]) (rest := [.ref o0]) C hl0 (kX5_face l D o0 o1 o2 o3 o4 o5 o6 o7 o8 m_text m_size m_at m_begin m_token m_told m_read m_harbour m_now m_undone m_undos rr7 m_two m_three m_chalks m_cb m_co m_trace m_kept 1 ((p1 / rr1) - (p1 / rr1) / rr10 * rr10) rr13 ee14) wm_831 meX5_face (by decide) rfl rfl rfl rfl (Nat.le_of_ble_eq_true rfl) dX5_comes_36 ?_
  refine tg_put (ws' := (tw_M D o0 o1 o2 o3 o4 o5 o6 o7 o8 m_text m_size m_at m_begin m_token m_told m_read m_harbour m_now m_undone m_undos rr7 rr13 m_three m_chalks m_cb m_co m_trace m_kept)) C V cfX5 0 rfl 12 (by decide) wm_717 rfl rfl rfl (Nat.le_of_ble_eq_true rfl) rfl dX5_comes_39 ?_
  refine tg_aload_n C dX5_comes_42 rfl 1 rfl ?_
  refine tg_aload_n C dX5_comes_43 rfl 1 rfl ?_
  refine tg_iconst (v := 2) C dX5_comes_44 (by decide) ?_
  refine tg_iload_n C dX5_comes_45 rfl 2 rfl ?_
  refine tg_iload_n C dX5_comes_46 rfl 0 rfl ?_
  obtain ⟨hh15, hs⟩ := tg_dz_e hs
  refine tg_irem C hh15 dX5_comes_47 ?_
  obtain ⟨rr16, ee17, hs⟩ := tg_b1_e hs
  refine tg_pVs (As := [.int 2, .int (p1 - p1 / rr1 * rr1)]) (rest := [.ref o0]) C hl0 (kX5_face l D o0 o1 o2 o3 o4 o5 o6 o7 o8 m_text m_size m_at m_begin m_token m_told m_read m_harbour m_now m_undone m_undos rr7 rr13 m_three m_chalks m_cb m_co m_trace m_kept 2 (p1 - p1 / rr1 * rr1) rr16 ee17) wm_831 meX5_face (by decide) rfl rfl rfl rfl (Nat.le_of_ble_eq_true rfl) dX5_comes_48 ?_
  refine tg_put (ws' := (tw_M D o0 o1 o2 o3 o4 o5 o6 o7 o8 m_text m_size m_at m_begin m_token m_told m_read m_harbour m_now m_undone m_undos rr7 rr13 rr16 m_chalks m_cb m_co m_trace m_kept)) C V cfX5 0 rfl 13 (by decide) wm_718 rfl rfl rfl (Nat.le_of_ble_eq_true rfl) rfl dX5_comes_51 ?_
  obtain ⟨rfl, rfl, rfl⟩ := tg_i3 hs
  exact tg_vret hE dX5_comes_54
set_option maxHeartbeats 2000000 in
set_option maxRecDepth 20000 in
theorem kX5_comes (l : Launch) (D : tg_D) (o0 o1 o2 o3 o4 o5 o6 o7 o8 : Nat) (m_text : Nat → Int32) (m_size : Int32) (m_at : Int32) (m_begin : Int32) (m_token : Int32) (m_told : Int32) (m_read : Nat → Int32) (m_harbour : Nat → Int32) (m_now : Nat → Int32) (m_undone : Nat → Int32) (m_undos : Int32) (m_one : Int32) (m_two : Int32) (m_three : Int32) (m_chalks : Int32) (m_cb : Nat → Int32) (m_co : Nat → Int32) (m_trace : Int64) (m_kept : Nat → Int32) (p1 : Int32) (q_m_one : Int32) (q_m_two : Int32) (q_m_three : Int32) (hs : fX5_comes m_harbour p1 = some (q_m_one, q_m_two, q_m_three)) : Met l yX5_comes [Cond.code yX5_comes cX5_comes 3 none] (tg_rm 1 22) (tg_Pre D (tw_M D o0 o1 o2 o3 o4 o5 o6 o7 o8 m_text m_size m_at m_begin m_token m_told m_read m_harbour m_now m_undone m_undos m_one m_two m_three m_chalks m_cb m_co m_trace m_kept) [.ref o0, .int p1]) (tg_Qe none D (tw_M D o0 o1 o2 o3 o4 o5 o6 o7 o8 m_text m_size m_at m_begin m_token m_told m_read m_harbour m_now m_undone m_undos q_m_one q_m_two q_m_three m_chalks m_cb m_co m_trace m_kept) (tg_Ad (tw_M D o0 o1 o2 o3 o4 o5 o6 o7 o8 m_text m_size m_at m_begin m_token m_told m_read m_harbour m_now m_undone m_undos m_one m_two m_three m_chalks m_cb m_co m_trace m_kept))) 0 0 (tg_Ad (tw_M D o0 o1 o2 o3 o4 o5 o6 o7 o8 m_text m_size m_at m_begin m_token m_told m_read m_harbour m_now m_undone m_undos m_one m_two m_three m_chalks m_cb m_co m_trace m_kept)) := tg_metEv (by decide) (Nat.le_of_ble_eq_true rfl) (fun X hl0 C V hE => vX5_comes l D o0 o1 o2 o3 o4 o5 o6 o7 o8 m_text m_size m_at m_begin m_token m_told m_read m_harbour m_now m_undone m_undos m_one m_two m_three m_chalks m_cb m_co m_trace m_kept p1 X hl0 C V q_m_one q_m_two q_m_three hs hE)
def fX5_opened_L45 (m_harbour : Nat → Int32) (n4 : Int32) (n5 : Int32) : Nat → Int32 → Int32 → Option (Int32 × Int32)
  | 0, _, _ => none
  | fuel + 1, n6, n7 => if (m_harbour 0) < n7 then (some (n6, n7)) else (tg_b1 (if ¬ n4 = 0 then (some (((m_harbour 0) + 1) - n7)) else (some n7)) fun (vv4 : Int32) => tg_b1 (if ¬ ((n5 >>> (vv4 &&& 31)) &&& 1) = 1 then (some (0 : Int32)) else (some (1 <<< (n7 &&& 31)))) fun (vv7 : Int32) => tg_nm (n6 ||| vv7) fun vv9 => tg_nm (n7 + 1) fun vv10 => fX5_opened_L45 m_harbour n4 n5 fuel vv9 vv10)
def fX5_opened (m_harbour : Nat → Int32) (p1 : Int32) (p2 : Int32) (p3 : Int32) (p4 : Int32) : Option (Int32) := tg_nm (((((((1 <<< (p1 &&& 31)) ||| (1 <<< (p2 &&& 31))) ||| (1 <<< (p3 &&& 31))) ||| (1 <<< ((p1 + p2) &&& 31))) ||| (1 <<< ((p1 + p3) &&& 31))) ||| (1 <<< ((p2 + p3) &&& 31))) ||| (1 <<< (((p1 + p2) + p3) &&& 31))) fun vv1 => tg_b2 (fX5_opened_L45 m_harbour p4 vv1 400 0 1) fun vv13 vv14 => some vv13
set_option maxHeartbeats 2000000 in
set_option maxRecDepth 20000 in
theorem vX5_opened_L45 (l : Launch) (D : tg_D) (o0 o1 o2 o3 o4 o5 o6 o7 o8 : Nat) (m_text : Nat → Int32) (m_size : Int32) (m_at : Int32) (m_begin : Int32) (m_token : Int32) (m_told : Int32) (m_read : Nat → Int32) (m_harbour : Nat → Int32) (m_now : Nat → Int32) (m_undone : Nat → Int32) (m_undos : Int32) (m_one : Int32) (m_two : Int32) (m_three : Int32) (m_chalks : Int32) (m_cb : Nat → Int32) (m_co : Nat → Int32) (m_trace : Int64) (m_kept : Nat → Int32) (n1 : Int32) (n2 : Int32) (n3 : Int32) (n4 : Int32) (n5 : Int32) (X : tg_X) (hl0 : tg_l X = l) (C : tg_C X D 8 cX5_opened RX5 0 0 0 0) (o_n6 : Int32) (o_n7 : Int32) : ∀ (fuel : Nat) (n6 : Int32) (n7 : Int32), fX5_opened_L45 m_harbour n4 n5 fuel n6 n7 = some (o_n6, o_n7) → tg_G X D 8 0 0 (tw_M D o0 o1 o2 o3 o4 o5 o6 o7 o8 m_text m_size m_at m_begin m_token m_told m_read m_harbour m_now m_undone m_undos m_one m_two m_three m_chalks m_cb m_co m_trace m_kept) [(0, .ref o0), (1, .int n1), (2, .int n2), (3, .int n3), (4, .int n4), (5, .int n5), (6, .int o_n6), (7, .int o_n7)] 105 [] → tg_G X D 8 0 0 (tw_M D o0 o1 o2 o3 o4 o5 o6 o7 o8 m_text m_size m_at m_begin m_token m_told m_read m_harbour m_now m_undone m_undos m_one m_two m_three m_chalks m_cb m_co m_trace m_kept) [(0, .ref o0), (1, .int n1), (2, .int n2), (3, .int n3), (4, .int n4), (5, .int n5), (6, .int n6), (7, .int n7)] 45 [] := by
  intro fuel
  induction fuel with
  | zero =>
    intro n6 n7 hs _
    rw [fX5_opened_L45] at hs
    cases hs
  | succ fuel ih =>
    intro n6 n7 hs J
    rw [fX5_opened_L45] at hs
    refine tg_iload C dX5_opened_45 7 rfl ?_
    refine tg_aload_n C dX5_opened_47 rfl 0 rfl ?_
    refine tg_get (v := .ref o3) C cfX5 0 rfl 7 (by decide) wm_712 rfl dX5_opened_48 ?_
    refine tg_iconst (v := 0) C dX5_opened_51 (by decide) ?_
    refine tg_iald C 3 0 rfl rfl (tg_vin (by decide)) dX5_opened_52 ?_
    refine tg_topi (y := m_harbour 0) rfl ?_
    refine tg_icmp_gt (tgt := 105) C dX5_opened_53 (by decide) (fun cc2 => ?_) (fun cc2 => ?_)
    · have hs := tg_t cc2 hs
      obtain ⟨rfl, rfl⟩ := tg_i2 hs
      exact J
    · have hs := tg_f cc2 hs
      refine tg_iload C dX5_opened_56 6 rfl ?_
      refine tg_iload C dX5_opened_58 5 rfl ?_
      refine tg_iload C dX5_opened_60 4 rfl ?_
      obtain ⟨vv4, ee12, hs⟩ := tg_b1_e hs
      have JJ5 : tg_G X D 8 0 0 (tw_M D o0 o1 o2 o3 o4 o5 o6 o7 o8 m_text m_size m_at m_begin m_token m_told m_read m_harbour m_now m_undone m_undos m_one m_two m_three m_chalks m_cb m_co m_trace m_kept) [(0, .ref o0), (1, .int n1), (2, .int n2), (3, .int n3), (4, .int n4), (5, .int n5), (6, .int n6), (7, .int n7)] 81 [.int vv4, .int n5, .int n6] := by
        refine tg_ishr C dX5_opened_81 ?_
        refine tg_iconst (v := 1) C dX5_opened_82 (by decide) ?_
        refine tg_iand C dX5_opened_83 ?_
        refine tg_iconst (v := 1) C dX5_opened_84 (by decide) ?_
        obtain ⟨vv7, ee11, hs⟩ := tg_b1_e hs
        have JJ8 : tg_G X D 8 0 0 (tw_M D o0 o1 o2 o3 o4 o5 o6 o7 o8 m_text m_size m_at m_begin m_token m_told m_read m_harbour m_now m_undone m_undos m_one m_two m_three m_chalks m_cb m_co m_trace m_kept) [(0, .ref o0), (1, .int n1), (2, .int n2), (3, .int n3), (4, .int n4), (5, .int n5), (6, .int n6), (7, .int n7)] 96 [.int vv7, .int n6] := by
          refine tg_ior C dX5_opened_96 ?_
          obtain ⟨vv9, evv9, hs⟩ := tg_nm_e hs
          refine tg_topi evv9 ?_
          refine tg_istore (lv' := [(6, .int vv9), (0, .ref o0), (1, .int n1), (2, .int n2), (3, .int n3), (4, .int n4), (5, .int n5), (7, .int n7)]) C dX5_opened_97 (by decide) rfl ?_
          obtain ⟨vv10, evv10, hs⟩ := tg_nm_e hs
          refine tg_iinc (v := vv10) (lv' := [(7, .int vv10), (6, .int vv9), (0, .ref o0), (1, .int n1), (2, .int n2), (3, .int n3), (4, .int n4), (5, .int n5)]) C dX5_opened_99 7 rfl (by rw [evv10]; rfl) (by decide) rfl ?_
          refine tg_goto (tgt := 45) C dX5_opened_102 (by decide) ?_
          refine tg_lsub [2, 3, 4, 5, 6, 7, 1, 0] rfl ?_
          exact ih vv9 vv10 hs J
        have hs := ee11
        clear ee11
        refine tg_icmp_ne (tgt := 95) C dX5_opened_85 (by decide) (fun cc6 => ?_) (fun cc6 => ?_)
        · have hs := tg_t cc6 hs
          refine tg_iconst (v := 0) C dX5_opened_95 (by decide) ?_
          obtain rfl := Option.some.inj hs
          exact JJ8
        · have hs := tg_nf cc6 hs
          refine tg_iconst (v := 1) C dX5_opened_88 (by decide) ?_
          refine tg_iload C dX5_opened_89 7 rfl ?_
          refine tg_ishl C dX5_opened_91 ?_
          refine tg_goto (tgt := 96) C dX5_opened_92 (by decide) ?_
          obtain rfl := Option.some.inj hs
          exact JJ8
      have hs := ee12
      clear ee12
      refine tg_if_ne (tgt := 70) C dX5_opened_62 (by decide) (fun cc3 => ?_) (fun cc3 => ?_)
      · have hs := tg_t cc3 hs
        refine tg_aload_n C dX5_opened_70 rfl 0 rfl ?_
        refine tg_get (v := .ref o3) C cfX5 0 rfl 7 (by decide) wm_712 rfl dX5_opened_71 ?_
        refine tg_iconst (v := 0) C dX5_opened_74 (by decide) ?_
        refine tg_iald C 3 0 rfl rfl (tg_vin (by decide)) dX5_opened_75 ?_
        refine tg_topi (y := m_harbour 0) rfl ?_
        refine tg_iconst (v := 1) C dX5_opened_76 (by decide) ?_
        refine tg_iadd C dX5_opened_77 ?_
        refine tg_iload C dX5_opened_78 7 rfl ?_
        refine tg_isub C dX5_opened_80 ?_
        obtain rfl := Option.some.inj hs
        exact JJ5
      · have hs := tg_nf cc3 hs
        refine tg_iload C dX5_opened_65 7 rfl ?_
        refine tg_goto (tgt := 81) C dX5_opened_67 (by decide) ?_
        obtain rfl := Option.some.inj hs
        exact JJ5
set_option maxHeartbeats 2000000 in
set_option maxRecDepth 20000 in
theorem vX5_opened (l : Launch) (D : tg_D) (o0 o1 o2 o3 o4 o5 o6 o7 o8 : Nat) (m_text : Nat → Int32) (m_size : Int32) (m_at : Int32) (m_begin : Int32) (m_token : Int32) (m_told : Int32) (m_read : Nat → Int32) (m_harbour : Nat → Int32) (m_now : Nat → Int32) (m_undone : Nat → Int32) (m_undos : Int32) (m_one : Int32) (m_two : Int32) (m_three : Int32) (m_chalks : Int32) (m_cb : Nat → Int32) (m_co : Nat → Int32) (m_trace : Int64) (m_kept : Nat → Int32) (p1 : Int32) (p2 : Int32) (p3 : Int32) (p4 : Int32) (X : tg_X) (hl0 : tg_l X = l) (C : tg_C X D 8 cX5_opened RX5 0 0 0 0) (r : Int32) (hs : fX5_opened m_harbour p1 p2 p3 p4 = some r) (hE : tg_Ei X D 0 0 cX5_opened .int r (tw_M D o0 o1 o2 o3 o4 o5 o6 o7 o8 m_text m_size m_at m_begin m_token m_told m_read m_harbour m_now m_undone m_undos m_one m_two m_three m_chalks m_cb m_co m_trace m_kept)) : tg_G X D 8 0 0 (tw_M D o0 o1 o2 o3 o4 o5 o6 o7 o8 m_text m_size m_at m_begin m_token m_told m_read m_harbour m_now m_undone m_undos m_one m_two m_three m_chalks m_cb m_co m_trace m_kept) [(0, .ref o0), (1, .int p1), (2, .int p2), (3, .int p3), (4, .int p4)] 0 [] := by
  unfold fX5_opened at hs
  refine tg_iconst (v := 1) C dX5_opened_0 (by decide) ?_
  refine tg_iload_n C dX5_opened_1 rfl 1 rfl ?_
  refine tg_ishl C dX5_opened_2 ?_
  refine tg_iconst (v := 1) C dX5_opened_3 (by decide) ?_
  refine tg_iload_n C dX5_opened_4 rfl 2 rfl ?_
  refine tg_ishl C dX5_opened_5 ?_
  refine tg_ior C dX5_opened_6 ?_
  refine tg_iconst (v := 1) C dX5_opened_7 (by decide) ?_
  refine tg_iload_n C dX5_opened_8 rfl 3 rfl ?_
  refine tg_ishl C dX5_opened_9 ?_
  refine tg_ior C dX5_opened_10 ?_
  refine tg_iconst (v := 1) C dX5_opened_11 (by decide) ?_
  refine tg_iload_n C dX5_opened_12 rfl 1 rfl ?_
  refine tg_iload_n C dX5_opened_13 rfl 2 rfl ?_
  refine tg_iadd C dX5_opened_14 ?_
  refine tg_ishl C dX5_opened_15 ?_
  refine tg_ior C dX5_opened_16 ?_
  refine tg_iconst (v := 1) C dX5_opened_17 (by decide) ?_
  refine tg_iload_n C dX5_opened_18 rfl 1 rfl ?_
  refine tg_iload_n C dX5_opened_19 rfl 3 rfl ?_
  refine tg_iadd C dX5_opened_20 ?_
  refine tg_ishl C dX5_opened_21 ?_
  refine tg_ior C dX5_opened_22 ?_
  refine tg_iconst (v := 1) C dX5_opened_23 (by decide) ?_
  refine tg_iload_n C dX5_opened_24 rfl 2 rfl ?_
  refine tg_iload_n C dX5_opened_25 rfl 3 rfl ?_
  refine tg_iadd C dX5_opened_26 ?_
  refine tg_ishl C dX5_opened_27 ?_
  refine tg_ior C dX5_opened_28 ?_
  refine tg_iconst (v := 1) C dX5_opened_29 (by decide) ?_
  refine tg_iload_n C dX5_opened_30 rfl 1 rfl ?_
  refine tg_iload_n C dX5_opened_31 rfl 2 rfl ?_
  refine tg_iadd C dX5_opened_32 ?_
  refine tg_iload_n C dX5_opened_33 rfl 3 rfl ?_
  refine tg_iadd C dX5_opened_34 ?_
  refine tg_ishl C dX5_opened_35 ?_
  refine tg_ior C dX5_opened_36 ?_
  obtain ⟨vv1, evv1, hs⟩ := tg_nm_e hs
  refine tg_topi evv1 ?_
  refine tg_istore (lv' := [(5, .int vv1), (0, .ref o0), (1, .int p1), (2, .int p2), (3, .int p3), (4, .int p4)]) C dX5_opened_37 (by decide) rfl ?_
  refine tg_iconst (v := 0) C dX5_opened_39 (by decide) ?_
  refine tg_istore (lv' := [(6, .int 0), (5, .int vv1), (0, .ref o0), (1, .int p1), (2, .int p2), (3, .int p3), (4, .int p4)]) C dX5_opened_40 (by decide) rfl ?_
  refine tg_iconst (v := 1) C dX5_opened_42 (by decide) ?_
  refine tg_istore (lv' := [(7, .int 1), (6, .int 0), (5, .int vv1), (0, .ref o0), (1, .int p1), (2, .int p2), (3, .int p3), (4, .int p4)]) C dX5_opened_43 (by decide) rfl ?_
  refine tg_lsub [3, 4, 5, 6, 7, 2, 1, 0] rfl ?_
  obtain ⟨vv13, vv14, ee15, hs⟩ := tg_b2_e hs
  refine vX5_opened_L45 l D o0 o1 o2 o3 o4 o5 o6 o7 o8 m_text m_size m_at m_begin m_token m_told m_read m_harbour m_now m_undone m_undos m_one m_two m_three m_chalks m_cb m_co m_trace m_kept p1 p2 p3 p4 vv1 X hl0 C vv13 vv14 400 0 1 ee15 ?_
  refine tg_iload C dX5_opened_105 6 rfl ?_
  obtain rfl := Option.some.inj hs
  exact tg_iret hE rfl dX5_opened_107
set_option maxHeartbeats 2000000 in
set_option maxRecDepth 20000 in
theorem kX5_opened (l : Launch) (D : tg_D) (o0 o1 o2 o3 o4 o5 o6 o7 o8 : Nat) (m_text : Nat → Int32) (m_size : Int32) (m_at : Int32) (m_begin : Int32) (m_token : Int32) (m_told : Int32) (m_read : Nat → Int32) (m_harbour : Nat → Int32) (m_now : Nat → Int32) (m_undone : Nat → Int32) (m_undos : Int32) (m_one : Int32) (m_two : Int32) (m_three : Int32) (m_chalks : Int32) (m_cb : Nat → Int32) (m_co : Nat → Int32) (m_trace : Int64) (m_kept : Nat → Int32) (p1 : Int32) (p2 : Int32) (p3 : Int32) (p4 : Int32) (r : Int32) (hs : fX5_opened m_harbour p1 p2 p3 p4 = some r) : Met l yX5_opened [Cond.code yX5_opened cX5_opened 8 (some .int)] (tg_rm 0 0) (tg_Pre D (tw_M D o0 o1 o2 o3 o4 o5 o6 o7 o8 m_text m_size m_at m_begin m_token m_told m_read m_harbour m_now m_undone m_undos m_one m_two m_three m_chalks m_cb m_co m_trace m_kept) [.ref o0, .int p1, .int p2, .int p3, .int p4]) (vp_Si (fun r' => r' = r)) 0 0 (fun _ => False) := tg_metI (by decide) (Nat.le_of_ble_eq_true rfl) (fun X hl0 C hE => vX5_opened l D o0 o1 o2 o3 o4 o5 o6 o7 o8 m_text m_size m_at m_begin m_token m_told m_read m_harbour m_now m_undone m_undos m_one m_two m_three m_chalks m_cb m_co m_trace m_kept p1 p2 p3 p4 X hl0 C r hs hE)
def fX5_ever_L4 (m_harbour : Nat → Int32) : Nat → Int32 → Int32 → Int32 → Int32 → Int32 → Option (Int32 × Int32 × Int32 × Int32 × Int32)
  | 0, _, _, _, _, _ => none
  | fuel + 1, m_one, m_two, m_three, n1, n2 => tg_b1 (fX5_throwsOf m_harbour) fun rr1 => if rr1 ≤ n2 then (some (m_one, m_two, m_three, n1, n2)) else (tg_b3 (fX5_comes m_harbour n2) fun vv4 vv5 vv6 => tg_b1 (fX5_opened m_harbour vv4 vv5 vv6 0) fun rr8 => tg_b1 (fX5_opened m_harbour vv4 vv5 vv6 1) fun rr10 => tg_nm (n1 ||| (rr8 ||| rr10)) fun vv12 => tg_nm (n2 + 1) fun vv13 => fX5_ever_L4 m_harbour fuel vv4 vv5 vv6 vv12 vv13)
def fX5_ever (m_harbour : Nat → Int32) (m_one : Int32) (m_two : Int32) (m_three : Int32) : Option (Int32 × Int32 × Int32 × Int32) := tg_b5 (fX5_ever_L4 m_harbour 400 m_one m_two m_three 0 0) fun vv14 vv15 vv16 vv17 vv18 => some (vv17, vv14, vv15, vv16)
set_option maxHeartbeats 2000000 in
set_option maxRecDepth 20000 in
theorem vX5_ever_L4 (l : Launch) (D : tg_D) (o0 o1 o2 o3 o4 o5 o6 o7 o8 : Nat) (m_text : Nat → Int32) (m_size : Int32) (m_at : Int32) (m_begin : Int32) (m_token : Int32) (m_told : Int32) (m_read : Nat → Int32) (m_harbour : Nat → Int32) (m_now : Nat → Int32) (m_undone : Nat → Int32) (m_undos : Int32) (m_chalks : Int32) (m_cb : Nat → Int32) (m_co : Nat → Int32) (m_trace : Int64) (m_kept : Nat → Int32) (X : tg_X) (hl0 : tg_l X = l) (C : tg_C X D 3 cX5_ever RX5 2 44 0 0) (V : tg_V X) (o_m_one : Int32) (o_m_two : Int32) (o_m_three : Int32) (o_n1 : Int32) (o_n2 : Int32) : ∀ (fuel : Nat) (m_one : Int32) (m_two : Int32) (m_three : Int32) (n1 : Int32) (n2 : Int32), fX5_ever_L4 m_harbour fuel m_one m_two m_three n1 n2 = some (o_m_one, o_m_two, o_m_three, o_n1, o_n2) → tg_G X D 3 0 0 (tw_M D o0 o1 o2 o3 o4 o5 o6 o7 o8 m_text m_size m_at m_begin m_token m_told m_read m_harbour m_now m_undone m_undos o_m_one o_m_two o_m_three m_chalks m_cb m_co m_trace m_kept) [(0, .ref o0), (1, .int o_n1), (2, .int o_n2)] 61 [] → tg_G X D 3 0 0 (tw_M D o0 o1 o2 o3 o4 o5 o6 o7 o8 m_text m_size m_at m_begin m_token m_told m_read m_harbour m_now m_undone m_undos m_one m_two m_three m_chalks m_cb m_co m_trace m_kept) [(0, .ref o0), (1, .int n1), (2, .int n2)] 4 [] := by
  intro fuel
  induction fuel with
  | zero =>
    intro m_one m_two m_three n1 n2 hs _
    rw [fX5_ever_L4] at hs
    cases hs
  | succ fuel ih =>
    intro m_one m_two m_three n1 n2 hs J
    rw [fX5_ever_L4] at hs
    refine tg_iload_n C dX5_ever_4 rfl 2 rfl ?_
    refine tg_aload_n C dX5_ever_5 rfl 0 rfl ?_
    obtain ⟨rr1, ee2, hs⟩ := tg_b1_e hs
    refine tg_pVs (As := []) (rest := [.int n2]) C hl0 (kX5_throwsOf l D o0 o1 o2 o3 o4 o5 o6 o7 o8 m_text m_size m_at m_begin m_token m_told m_read m_harbour m_now m_undone m_undos m_one m_two m_three m_chalks m_cb m_co m_trace m_kept rr1 ee2) wm_863 meX5_throwsOf (by decide) rfl rfl rfl rfl (Nat.le_of_ble_eq_true rfl) dX5_ever_6 ?_
    refine tg_icmp_ge (tgt := 61) C dX5_ever_9 (by decide) (fun cc3 => ?_) (fun cc3 => ?_)
    · have hs := tg_t cc3 hs
      obtain ⟨rfl, rfl, rfl, rfl, rfl⟩ := tg_i5 hs
      exact J
    · have hs := tg_f cc3 hs
      refine tg_aload_n C dX5_ever_12 rfl 0 rfl ?_
      refine tg_iload_n C dX5_ever_13 rfl 2 rfl ?_
      obtain ⟨vv4, vv5, vv6, ee7, hs⟩ := tg_b3_e hs
      refine tg_eVs (ws' := (tw_M D o0 o1 o2 o3 o4 o5 o6 o7 o8 m_text m_size m_at m_begin m_token m_told m_read m_harbour m_now m_undone m_undos vv4 vv5 vv6 m_chalks m_cb m_co m_trace m_kept)) (As := [.int n2]) (rest := []) C V hl0 (kX5_comes l D o0 o1 o2 o3 o4 o5 o6 o7 o8 m_text m_size m_at m_begin m_token m_told m_read m_harbour m_now m_undone m_undos m_one m_two m_three m_chalks m_cb m_co m_trace m_kept n2 vv4 vv5 vv6 ee7) wm_867 meX5_comes (by decide) rfl rfl rfl rfl (Nat.le_of_ble_eq_true rfl) rfl dX5_ever_14 ?_
      refine tg_iload_n C dX5_ever_17 rfl 1 rfl ?_
      refine tg_aload_n C dX5_ever_18 rfl 0 rfl ?_
      refine tg_aload_n C dX5_ever_19 rfl 0 rfl ?_
      refine tg_get (v := .int vv4) C cfX5 0 rfl 11 (by decide) wm_716 rfl dX5_ever_20 ?_
      refine tg_aload_n C dX5_ever_23 rfl 0 rfl ?_
      refine tg_get (v := .int vv5) C cfX5 0 rfl 12 (by decide) wm_717 rfl dX5_ever_24 ?_
      refine tg_aload_n C dX5_ever_27 rfl 0 rfl ?_
      refine tg_get (v := .int vv6) C cfX5 0 rfl 13 (by decide) wm_718 rfl dX5_ever_28 ?_
      refine tg_iconst (v := 0) C dX5_ever_31 (by decide) ?_
      obtain ⟨rr8, ee9, hs⟩ := tg_b1_e hs
      refine tg_pVs (As := [.int vv4, .int vv5, .int vv6, .int 0]) (rest := [.int n1]) C hl0 (kX5_opened l D o0 o1 o2 o3 o4 o5 o6 o7 o8 m_text m_size m_at m_begin m_token m_told m_read m_harbour m_now m_undone m_undos vv4 vv5 vv6 m_chalks m_cb m_co m_trace m_kept vv4 vv5 vv6 0 rr8 ee9) wm_871 meX5_opened (by decide) rfl rfl rfl rfl (Nat.le_of_ble_eq_true rfl) dX5_ever_32 ?_
      refine tg_aload_n C dX5_ever_35 rfl 0 rfl ?_
      refine tg_aload_n C dX5_ever_36 rfl 0 rfl ?_
      refine tg_get (v := .int vv4) C cfX5 0 rfl 11 (by decide) wm_716 rfl dX5_ever_37 ?_
      refine tg_aload_n C dX5_ever_40 rfl 0 rfl ?_
      refine tg_get (v := .int vv5) C cfX5 0 rfl 12 (by decide) wm_717 rfl dX5_ever_41 ?_
      refine tg_aload_n C dX5_ever_44 rfl 0 rfl ?_
      refine tg_get (v := .int vv6) C cfX5 0 rfl 13 (by decide) wm_718 rfl dX5_ever_45 ?_
      refine tg_iconst (v := 1) C dX5_ever_48 (by decide) ?_
      obtain ⟨rr10, ee11, hs⟩ := tg_b1_e hs
      refine tg_pVs (As := [.int vv4, .int vv5, .int vv6, .int 1]) (rest := [.int rr8, .int n1]) C hl0 (kX5_opened l D o0 o1 o2 o3 o4 o5 o6 o7 o8 m_text m_size m_at m_begin m_token m_told m_read m_harbour m_now m_undone m_undos vv4 vv5 vv6 m_chalks m_cb m_co m_trace m_kept vv4 vv5 vv6 1 rr10 ee11) wm_871 meX5_opened (by decide) rfl rfl rfl rfl (Nat.le_of_ble_eq_true rfl) dX5_ever_49 ?_
      refine tg_ior C dX5_ever_52 ?_
      refine tg_ior C dX5_ever_53 ?_
      obtain ⟨vv12, evv12, hs⟩ := tg_nm_e hs
      refine tg_topi evv12 ?_
      refine tg_istore_n (lv' := [(1, .int vv12), (0, .ref o0), (2, .int n2)]) C dX5_ever_54 rfl (by decide) rfl ?_
      obtain ⟨vv13, evv13, hs⟩ := tg_nm_e hs
      refine tg_iinc (v := vv13) (lv' := [(2, .int vv13), (1, .int vv12), (0, .ref o0)]) C dX5_ever_55 2 rfl (by rw [evv13]; rfl) (by decide) rfl ?_
      refine tg_goto (tgt := 4) C dX5_ever_58 (by decide) ?_
      refine tg_lsub [2, 1, 0] rfl ?_
      exact ih vv4 vv5 vv6 vv12 vv13 hs J
set_option maxHeartbeats 2000000 in
set_option maxRecDepth 20000 in
theorem vX5_ever (l : Launch) (D : tg_D) (o0 o1 o2 o3 o4 o5 o6 o7 o8 : Nat) (m_text : Nat → Int32) (m_size : Int32) (m_at : Int32) (m_begin : Int32) (m_token : Int32) (m_told : Int32) (m_read : Nat → Int32) (m_harbour : Nat → Int32) (m_now : Nat → Int32) (m_undone : Nat → Int32) (m_undos : Int32) (m_one : Int32) (m_two : Int32) (m_three : Int32) (m_chalks : Int32) (m_cb : Nat → Int32) (m_co : Nat → Int32) (m_trace : Int64) (m_kept : Nat → Int32) (X : tg_X) (hl0 : tg_l X = l) (C : tg_C X D 3 cX5_ever RX5 2 44 0 0) (V : tg_V X) (r : Int32) (q_m_one : Int32) (q_m_two : Int32) (q_m_three : Int32) (hs : fX5_ever m_harbour m_one m_two m_three = some (r, q_m_one, q_m_two, q_m_three)) (hE : tg_Ei X D 0 0 cX5_ever .int r (tw_M D o0 o1 o2 o3 o4 o5 o6 o7 o8 m_text m_size m_at m_begin m_token m_told m_read m_harbour m_now m_undone m_undos q_m_one q_m_two q_m_three m_chalks m_cb m_co m_trace m_kept)) : tg_G X D 3 0 0 (tw_M D o0 o1 o2 o3 o4 o5 o6 o7 o8 m_text m_size m_at m_begin m_token m_told m_read m_harbour m_now m_undone m_undos m_one m_two m_three m_chalks m_cb m_co m_trace m_kept) [(0, .ref o0)] 0 [] := by
  unfold fX5_ever at hs
  refine tg_iconst (v := 0) C dX5_ever_0 (by decide) ?_
  refine tg_istore_n (lv' := [(1, .int 0), (0, .ref o0)]) C dX5_ever_1 rfl (by decide) rfl ?_
  refine tg_iconst (v := 0) C dX5_ever_2 (by decide) ?_
  refine tg_istore_n (lv' := [(2, .int 0), (1, .int 0), (0, .ref o0)]) C dX5_ever_3 rfl (by decide) rfl ?_
  refine tg_lsub [2, 1, 0] rfl ?_
  obtain ⟨vv14, vv15, vv16, vv17, vv18, ee19, hs⟩ := tg_b5_e hs
  refine vX5_ever_L4 l D o0 o1 o2 o3 o4 o5 o6 o7 o8 m_text m_size m_at m_begin m_token m_told m_read m_harbour m_now m_undone m_undos m_chalks m_cb m_co m_trace m_kept X hl0 C V vv14 vv15 vv16 vv17 vv18 400 m_one m_two m_three 0 0 ee19 ?_
  refine tg_iload_n C dX5_ever_61 rfl 1 rfl ?_
  obtain ⟨rfl, rfl, rfl, rfl⟩ := tg_i4 hs
  exact tg_iret hE rfl dX5_ever_62
set_option maxHeartbeats 2000000 in
set_option maxRecDepth 20000 in
theorem kX5_ever (l : Launch) (D : tg_D) (o0 o1 o2 o3 o4 o5 o6 o7 o8 : Nat) (m_text : Nat → Int32) (m_size : Int32) (m_at : Int32) (m_begin : Int32) (m_token : Int32) (m_told : Int32) (m_read : Nat → Int32) (m_harbour : Nat → Int32) (m_now : Nat → Int32) (m_undone : Nat → Int32) (m_undos : Int32) (m_one : Int32) (m_two : Int32) (m_three : Int32) (m_chalks : Int32) (m_cb : Nat → Int32) (m_co : Nat → Int32) (m_trace : Int64) (m_kept : Nat → Int32) (r : Int32) (q_m_one : Int32) (q_m_two : Int32) (q_m_three : Int32) (hs : fX5_ever m_harbour m_one m_two m_three = some (r, q_m_one, q_m_two, q_m_three)) : Met l yX5_ever [Cond.code yX5_ever cX5_ever 3 (some .int)] (tg_rm 2 44) (tg_Pre D (tw_M D o0 o1 o2 o3 o4 o5 o6 o7 o8 m_text m_size m_at m_begin m_token m_told m_read m_harbour m_now m_undone m_undos m_one m_two m_three m_chalks m_cb m_co m_trace m_kept) [.ref o0]) (tg_Qe (some (.int r)) D (tw_M D o0 o1 o2 o3 o4 o5 o6 o7 o8 m_text m_size m_at m_begin m_token m_told m_read m_harbour m_now m_undone m_undos q_m_one q_m_two q_m_three m_chalks m_cb m_co m_trace m_kept) (tg_Ad (tw_M D o0 o1 o2 o3 o4 o5 o6 o7 o8 m_text m_size m_at m_begin m_token m_told m_read m_harbour m_now m_undone m_undos m_one m_two m_three m_chalks m_cb m_co m_trace m_kept))) 0 0 (tg_Ad (tw_M D o0 o1 o2 o3 o4 o5 o6 o7 o8 m_text m_size m_at m_begin m_token m_told m_read m_harbour m_now m_undone m_undos m_one m_two m_three m_chalks m_cb m_co m_trace m_kept)) := tg_metEi (by decide) (Nat.le_of_ble_eq_true rfl) (fun X hl0 C V hE => vX5_ever l D o0 o1 o2 o3 o4 o5 o6 o7 o8 m_text m_size m_at m_begin m_token m_told m_read m_harbour m_now m_undone m_undos m_one m_two m_three m_chalks m_cb m_co m_trace m_kept X hl0 C V r q_m_one q_m_two q_m_three hs hE)
def fX5_taken (m_harbour : Nat → Int32) (m_now : Nat → Int32) : Option (Int32) := tg_b1 (fX5_berths m_harbour m_now 0) fun rr1 => tg_b1 (fX5_berths m_harbour m_now 1) fun rr3 => some (rr1 ||| rr3)
set_option maxHeartbeats 2000000 in
set_option maxRecDepth 20000 in
theorem vX5_taken (l : Launch) (D : tg_D) (o0 o1 o2 o3 o4 o5 o6 o7 o8 : Nat) (m_text : Nat → Int32) (m_size : Int32) (m_at : Int32) (m_begin : Int32) (m_token : Int32) (m_told : Int32) (m_read : Nat → Int32) (m_harbour : Nat → Int32) (m_now : Nat → Int32) (m_undone : Nat → Int32) (m_undos : Int32) (m_one : Int32) (m_two : Int32) (m_three : Int32) (m_chalks : Int32) (m_cb : Nat → Int32) (m_co : Nat → Int32) (m_trace : Int64) (m_kept : Nat → Int32) (X : tg_X) (hl0 : tg_l X = l) (C : tg_C X D 1 cX5_taken RX5 1 23 0 0) (r : Int32) (hs : fX5_taken m_harbour m_now = some r) (hE : tg_Ei X D 0 0 cX5_taken .int r (tw_M D o0 o1 o2 o3 o4 o5 o6 o7 o8 m_text m_size m_at m_begin m_token m_told m_read m_harbour m_now m_undone m_undos m_one m_two m_three m_chalks m_cb m_co m_trace m_kept)) : tg_G X D 1 0 0 (tw_M D o0 o1 o2 o3 o4 o5 o6 o7 o8 m_text m_size m_at m_begin m_token m_told m_read m_harbour m_now m_undone m_undos m_one m_two m_three m_chalks m_cb m_co m_trace m_kept) [(0, .ref o0)] 0 [] := by
  unfold fX5_taken at hs
  refine tg_aload_n C dX5_taken_0 rfl 0 rfl ?_
  refine tg_iconst (v := 0) C dX5_taken_1 (by decide) ?_
  obtain ⟨rr1, ee2, hs⟩ := tg_b1_e hs
  refine tg_pVs (As := [.int 0]) (rest := []) C hl0 (kX5_berths l D o0 o1 o2 o3 o4 o5 o6 o7 o8 m_text m_size m_at m_begin m_token m_told m_read m_harbour m_now m_undone m_undos m_one m_two m_three m_chalks m_cb m_co m_trace m_kept 0 rr1 ee2) wm_848 meX5_berths (by decide) rfl rfl rfl rfl (Nat.le_of_ble_eq_true rfl) dX5_taken_2 ?_
  refine tg_aload_n C dX5_taken_5 rfl 0 rfl ?_
  refine tg_iconst (v := 1) C dX5_taken_6 (by decide) ?_
  obtain ⟨rr3, ee4, hs⟩ := tg_b1_e hs
  refine tg_pVs (As := [.int 1]) (rest := [.int rr1]) C hl0 (kX5_berths l D o0 o1 o2 o3 o4 o5 o6 o7 o8 m_text m_size m_at m_begin m_token m_told m_read m_harbour m_now m_undone m_undos m_one m_two m_three m_chalks m_cb m_co m_trace m_kept 1 rr3 ee4) wm_848 meX5_berths (by decide) rfl rfl rfl rfl (Nat.le_of_ble_eq_true rfl) dX5_taken_7 ?_
  refine tg_ior C dX5_taken_10 ?_
  obtain rfl := Option.some.inj hs
  exact tg_iret hE rfl dX5_taken_11
set_option maxHeartbeats 2000000 in
set_option maxRecDepth 20000 in
theorem kX5_taken (l : Launch) (D : tg_D) (o0 o1 o2 o3 o4 o5 o6 o7 o8 : Nat) (m_text : Nat → Int32) (m_size : Int32) (m_at : Int32) (m_begin : Int32) (m_token : Int32) (m_told : Int32) (m_read : Nat → Int32) (m_harbour : Nat → Int32) (m_now : Nat → Int32) (m_undone : Nat → Int32) (m_undos : Int32) (m_one : Int32) (m_two : Int32) (m_three : Int32) (m_chalks : Int32) (m_cb : Nat → Int32) (m_co : Nat → Int32) (m_trace : Int64) (m_kept : Nat → Int32) (r : Int32) (hs : fX5_taken m_harbour m_now = some r) : Met l yX5_taken [Cond.code yX5_taken cX5_taken 1 (some .int)] (tg_rm 1 23) (tg_Pre D (tw_M D o0 o1 o2 o3 o4 o5 o6 o7 o8 m_text m_size m_at m_begin m_token m_told m_read m_harbour m_now m_undone m_undos m_one m_two m_three m_chalks m_cb m_co m_trace m_kept) [.ref o0]) (vp_Si (fun r' => r' = r)) 0 0 (fun _ => False) := tg_metI (by decide) (Nat.le_of_ble_eq_true rfl) (fun X hl0 C hE => vX5_taken l D o0 o1 o2 o3 o4 o5 o6 o7 o8 m_text m_size m_at m_begin m_token m_told m_read m_harbour m_now m_undone m_undos m_one m_two m_three m_chalks m_cb m_co m_trace m_kept X hl0 C r hs hE)
def fX5_free (m_harbour : Nat → Int32) (m_now : Nat → Int32) : Option (Int32) := tg_b1 (fX5_taken m_harbour m_now) fun rr1 => some (((1 <<< (((m_harbour 0) + 1) &&& 31)) - 2) &&& (rr1 ^^^ (-1)))
set_option maxHeartbeats 2000000 in
set_option maxRecDepth 20000 in
theorem vX5_free (l : Launch) (D : tg_D) (o0 o1 o2 o3 o4 o5 o6 o7 o8 : Nat) (m_text : Nat → Int32) (m_size : Int32) (m_at : Int32) (m_begin : Int32) (m_token : Int32) (m_told : Int32) (m_read : Nat → Int32) (m_harbour : Nat → Int32) (m_now : Nat → Int32) (m_undone : Nat → Int32) (m_undos : Int32) (m_one : Int32) (m_two : Int32) (m_three : Int32) (m_chalks : Int32) (m_cb : Nat → Int32) (m_co : Nat → Int32) (m_trace : Int64) (m_kept : Nat → Int32) (X : tg_X) (hl0 : tg_l X = l) (C : tg_C X D 1 cX5_free RX5 2 43 0 0) (r : Int32) (hs : fX5_free m_harbour m_now = some r) (hE : tg_Ei X D 0 0 cX5_free .int r (tw_M D o0 o1 o2 o3 o4 o5 o6 o7 o8 m_text m_size m_at m_begin m_token m_told m_read m_harbour m_now m_undone m_undos m_one m_two m_three m_chalks m_cb m_co m_trace m_kept)) : tg_G X D 1 0 0 (tw_M D o0 o1 o2 o3 o4 o5 o6 o7 o8 m_text m_size m_at m_begin m_token m_told m_read m_harbour m_now m_undone m_undos m_one m_two m_three m_chalks m_cb m_co m_trace m_kept) [(0, .ref o0)] 0 [] := by
  unfold fX5_free at hs
  refine tg_iconst (v := 1) C dX5_free_0 (by decide) ?_
  refine tg_aload_n C dX5_free_1 rfl 0 rfl ?_
  refine tg_get (v := .ref o3) C cfX5 0 rfl 7 (by decide) wm_712 rfl dX5_free_2 ?_
  refine tg_iconst (v := 0) C dX5_free_5 (by decide) ?_
  refine tg_iald C 3 0 rfl rfl (tg_vin (by decide)) dX5_free_6 ?_
  refine tg_topi (y := m_harbour 0) rfl ?_
  refine tg_iconst (v := 1) C dX5_free_7 (by decide) ?_
  refine tg_iadd C dX5_free_8 ?_
  refine tg_ishl C dX5_free_9 ?_
  refine tg_iconst (v := 2) C dX5_free_10 (by decide) ?_
  refine tg_isub C dX5_free_11 ?_
  refine tg_aload_n C dX5_free_12 rfl 0 rfl ?_
  obtain ⟨rr1, ee2, hs⟩ := tg_b1_e hs
  refine tg_pVs (As := []) (rest := [.int ((1 <<< (((m_harbour 0) + 1) &&& 31)) - 2)]) C hl0 (kX5_taken l D o0 o1 o2 o3 o4 o5 o6 o7 o8 m_text m_size m_at m_begin m_token m_told m_read m_harbour m_now m_undone m_undos m_one m_two m_three m_chalks m_cb m_co m_trace m_kept rr1 ee2) wm_879 meX5_taken (by decide) rfl rfl rfl rfl (Nat.le_of_ble_eq_true rfl) dX5_free_13 ?_
  refine tg_iconst (v := (-1)) C dX5_free_16 (by decide) ?_
  refine tg_ixor C dX5_free_17 ?_
  refine tg_iand C dX5_free_18 ?_
  obtain rfl := Option.some.inj hs
  exact tg_iret hE rfl dX5_free_19
set_option maxHeartbeats 2000000 in
set_option maxRecDepth 20000 in
theorem kX5_free (l : Launch) (D : tg_D) (o0 o1 o2 o3 o4 o5 o6 o7 o8 : Nat) (m_text : Nat → Int32) (m_size : Int32) (m_at : Int32) (m_begin : Int32) (m_token : Int32) (m_told : Int32) (m_read : Nat → Int32) (m_harbour : Nat → Int32) (m_now : Nat → Int32) (m_undone : Nat → Int32) (m_undos : Int32) (m_one : Int32) (m_two : Int32) (m_three : Int32) (m_chalks : Int32) (m_cb : Nat → Int32) (m_co : Nat → Int32) (m_trace : Int64) (m_kept : Nat → Int32) (r : Int32) (hs : fX5_free m_harbour m_now = some r) : Met l yX5_free [Cond.code yX5_free cX5_free 1 (some .int)] (tg_rm 2 43) (tg_Pre D (tw_M D o0 o1 o2 o3 o4 o5 o6 o7 o8 m_text m_size m_at m_begin m_token m_told m_read m_harbour m_now m_undone m_undos m_one m_two m_three m_chalks m_cb m_co m_trace m_kept) [.ref o0]) (vp_Si (fun r' => r' = r)) 0 0 (fun _ => False) := tg_metI (by decide) (Nat.le_of_ble_eq_true rfl) (fun X hl0 C hE => vX5_free l D o0 o1 o2 o3 o4 o5 o6 o7 o8 m_text m_size m_at m_begin m_token m_told m_read m_harbour m_now m_undone m_undos m_one m_two m_three m_chalks m_cb m_co m_trace m_kept X hl0 C r hs hE)
def fX5_race (m_harbour : Nat → Int32) (m_now : Nat → Int32) (m_one : Int32) (m_two : Int32) (m_three : Int32) (p1 : Int32) : Option (Int32 × Int32 × Int32 × Int32) := tg_b1 (fX5_berths m_harbour m_now p1) fun rr1 => tg_b1 (fX5_many rr1) fun rr3 => tg_nm ((m_harbour 1) - rr3) fun vv5 => if 0 < vv5 then (tg_b4 (fX5_ever m_harbour m_one m_two m_three) fun rr7 vv8 vv9 vv10 => tg_b1 (fX5_free m_harbour m_now) fun rr12 => tg_b1 (fX5_many (rr7 &&& rr12)) fun rr14 => if vv5 ≤ rr14 then (some (vv5, vv8, vv9, vv10)) else (some ((-9), vv8, vv9, vv10))) else (some (0, m_one, m_two, m_three))
set_option maxHeartbeats 2000000 in
set_option maxRecDepth 20000 in
theorem vX5_race (l : Launch) (D : tg_D) (o0 o1 o2 o3 o4 o5 o6 o7 o8 : Nat) (m_text : Nat → Int32) (m_size : Int32) (m_at : Int32) (m_begin : Int32) (m_token : Int32) (m_told : Int32) (m_read : Nat → Int32) (m_harbour : Nat → Int32) (m_now : Nat → Int32) (m_undone : Nat → Int32) (m_undos : Int32) (m_one : Int32) (m_two : Int32) (m_three : Int32) (m_chalks : Int32) (m_cb : Nat → Int32) (m_co : Nat → Int32) (m_trace : Int64) (m_kept : Nat → Int32) (p1 : Int32) (X : tg_X) (hl0 : tg_l X = l) (C : tg_C X D 3 cX5_race RX5 3 66 0 0) (V : tg_V X) (r : Int32) (q_m_one : Int32) (q_m_two : Int32) (q_m_three : Int32) (hs : fX5_race m_harbour m_now m_one m_two m_three p1 = some (r, q_m_one, q_m_two, q_m_three)) (hE : tg_Ei X D 0 0 cX5_race .int r (tw_M D o0 o1 o2 o3 o4 o5 o6 o7 o8 m_text m_size m_at m_begin m_token m_told m_read m_harbour m_now m_undone m_undos q_m_one q_m_two q_m_three m_chalks m_cb m_co m_trace m_kept)) : tg_G X D 3 0 0 (tw_M D o0 o1 o2 o3 o4 o5 o6 o7 o8 m_text m_size m_at m_begin m_token m_told m_read m_harbour m_now m_undone m_undos m_one m_two m_three m_chalks m_cb m_co m_trace m_kept) [(0, .ref o0), (1, .int p1)] 0 [] := by
  unfold fX5_race at hs
  refine tg_aload_n C dX5_race_0 rfl 0 rfl ?_
  refine tg_get (v := .ref o3) C cfX5 0 rfl 7 (by decide) wm_712 rfl dX5_race_1 ?_
  refine tg_iconst (v := 1) C dX5_race_4 (by decide) ?_
  refine tg_iald C 3 0 rfl rfl (tg_vin (by decide)) dX5_race_5 ?_
  refine tg_topi (y := m_harbour 1) rfl ?_
  refine tg_aload_n C dX5_race_6 rfl 0 rfl ?_
  refine tg_iload_n C dX5_race_7 rfl 1 rfl ?_
  obtain ⟨rr1, ee2, hs⟩ := tg_b1_e hs
  refine tg_pVs (As := [.int p1]) (rest := [.int (m_harbour 1)]) C hl0 (kX5_berths l D o0 o1 o2 o3 o4 o5 o6 o7 o8 m_text m_size m_at m_begin m_token m_told m_read m_harbour m_now m_undone m_undos m_one m_two m_three m_chalks m_cb m_co m_trace m_kept p1 rr1 ee2) wm_848 meX5_berths (by decide) rfl rfl rfl rfl (Nat.le_of_ble_eq_true rfl) dX5_race_8 ?_
  obtain ⟨rr3, ee4, hs⟩ := tg_b1_e hs
  refine tg_pS (As := [.int rr1]) (rest := [.int (m_harbour 1)]) C hl0 (kX5_many l D rr1 rr3 ee4) wm_856 meX5_many (by decide) rfl rfl (Nat.le_of_ble_eq_true rfl) dX5_race_11 ?_
  refine tg_isub C dX5_race_14 ?_
  obtain ⟨vv5, evv5, hs⟩ := tg_nm_e hs
  refine tg_topi evv5 ?_
  refine tg_istore_n (lv' := [(2, .int vv5), (0, .ref o0), (1, .int p1)]) C dX5_race_15 rfl (by decide) rfl ?_
  refine tg_iload_n C dX5_race_16 rfl 0 rfl ?_
  refine tg_if_gt (tgt := 24) C dX5_race_17 (by decide) (fun cc6 => ?_) (fun cc6 => ?_)
  · have hs := tg_t cc6 hs
    refine tg_aload_n C dX5_race_24 rfl 1 rfl ?_
    obtain ⟨rr7, vv8, vv9, vv10, ee11, hs⟩ := tg_b4_e hs
    refine tg_eVs (ws' := (tw_M D o0 o1 o2 o3 o4 o5 o6 o7 o8 m_text m_size m_at m_begin m_token m_told m_read m_harbour m_now m_undone m_undos vv8 vv9 vv10 m_chalks m_cb m_co m_trace m_kept)) (As := []) (rest := []) C V hl0 (kX5_ever l D o0 o1 o2 o3 o4 o5 o6 o7 o8 m_text m_size m_at m_begin m_token m_told m_read m_harbour m_now m_undone m_undos m_one m_two m_three m_chalks m_cb m_co m_trace m_kept rr7 vv8 vv9 vv10 ee11) wm_859 meX5_ever (by decide) rfl rfl rfl rfl (Nat.le_of_ble_eq_true rfl) rfl dX5_race_25 ?_
    refine tg_aload_n C dX5_race_28 rfl 1 rfl ?_
    obtain ⟨rr12, ee13, hs⟩ := tg_b1_e hs
    refine tg_pVs (As := []) (rest := [.int rr7]) C hl0 (kX5_free l D o0 o1 o2 o3 o4 o5 o6 o7 o8 m_text m_size m_at m_begin m_token m_told m_read m_harbour m_now m_undone m_undos vv8 vv9 vv10 m_chalks m_cb m_co m_trace m_kept rr12 ee13) wm_875 meX5_free (by decide) rfl rfl rfl rfl (Nat.le_of_ble_eq_true rfl) dX5_race_29 ?_
    refine tg_iand C dX5_race_32 ?_
    obtain ⟨rr14, ee15, hs⟩ := tg_b1_e hs
    refine tg_pS (As := [.int (rr7 &&& rr12)]) (rest := []) C hl0 (kX5_many l D (rr7 &&& rr12) rr14 ee15) wm_856 meX5_many (by decide) rfl rfl (Nat.le_of_ble_eq_true rfl) dX5_race_33 ?_
    refine tg_iload_n C dX5_race_36 rfl 0 rfl ?_
    refine tg_icmp_ge (tgt := 45) C dX5_race_37 (by decide) (fun cc16 => ?_) (fun cc16 => ?_)
    · have hs := tg_t cc16 hs
      refine tg_iload_n C dX5_race_45 rfl 0 rfl ?_
      obtain ⟨rfl, rfl, rfl, rfl⟩ := tg_i4 hs
      exact tg_iret hE rfl dX5_race_46
    · have hs := tg_f cc16 hs
      refine tg_bipush (v := (-9)) C dX5_race_40 (by decide) ?_
      refine tg_goto (tgt := 46) C dX5_race_42 (by decide) ?_
      obtain ⟨rfl, rfl, rfl, rfl⟩ := tg_i4 hs
      exact tg_iret hE rfl dX5_race_46
  · have hs := tg_f cc6 hs
    refine tg_iconst (v := 0) C dX5_race_20 (by decide) ?_
    refine tg_goto (tgt := 46) C dX5_race_21 (by decide) ?_
    obtain ⟨rfl, rfl, rfl, rfl⟩ := tg_i4 hs
    exact tg_iret hE rfl dX5_race_46
set_option maxHeartbeats 2000000 in
set_option maxRecDepth 20000 in
theorem kX5_race (l : Launch) (D : tg_D) (o0 o1 o2 o3 o4 o5 o6 o7 o8 : Nat) (m_text : Nat → Int32) (m_size : Int32) (m_at : Int32) (m_begin : Int32) (m_token : Int32) (m_told : Int32) (m_read : Nat → Int32) (m_harbour : Nat → Int32) (m_now : Nat → Int32) (m_undone : Nat → Int32) (m_undos : Int32) (m_one : Int32) (m_two : Int32) (m_three : Int32) (m_chalks : Int32) (m_cb : Nat → Int32) (m_co : Nat → Int32) (m_trace : Int64) (m_kept : Nat → Int32) (p1 : Int32) (r : Int32) (q_m_one : Int32) (q_m_two : Int32) (q_m_three : Int32) (hs : fX5_race m_harbour m_now m_one m_two m_three p1 = some (r, q_m_one, q_m_two, q_m_three)) : Met l yX5_race [Cond.code yX5_race cX5_race 3 (some .int)] (tg_rm 3 66) (tg_Pre D (tw_M D o0 o1 o2 o3 o4 o5 o6 o7 o8 m_text m_size m_at m_begin m_token m_told m_read m_harbour m_now m_undone m_undos m_one m_two m_three m_chalks m_cb m_co m_trace m_kept) [.ref o0, .int p1]) (tg_Qe (some (.int r)) D (tw_M D o0 o1 o2 o3 o4 o5 o6 o7 o8 m_text m_size m_at m_begin m_token m_told m_read m_harbour m_now m_undone m_undos q_m_one q_m_two q_m_three m_chalks m_cb m_co m_trace m_kept) (tg_Ad (tw_M D o0 o1 o2 o3 o4 o5 o6 o7 o8 m_text m_size m_at m_begin m_token m_told m_read m_harbour m_now m_undone m_undos m_one m_two m_three m_chalks m_cb m_co m_trace m_kept))) 0 0 (tg_Ad (tw_M D o0 o1 o2 o3 o4 o5 o6 o7 o8 m_text m_size m_at m_begin m_token m_told m_read m_harbour m_now m_undone m_undos m_one m_two m_three m_chalks m_cb m_co m_trace m_kept)) := tg_metEi (by decide) (Nat.le_of_ble_eq_true rfl) (fun X hl0 C V hE => vX5_race l D o0 o1 o2 o3 o4 o5 o6 o7 o8 m_text m_size m_at m_begin m_token m_told m_read m_harbour m_now m_undone m_undos m_one m_two m_three m_chalks m_cb m_co m_trace m_kept p1 X hl0 C V r q_m_one q_m_two q_m_three hs hE)
