def fX0_shownAs (p0 : Int32) (p1 : Int32) (p2 : Int32) : Option (Int32) := some (((100 * p0) + (10 * p1)) + p2)
set_option maxHeartbeats 2000000 in
set_option maxRecDepth 20000 in
theorem vX0_shownAs (l : Launch) (D : tg_D) (p0 : Int32) (p1 : Int32) (p2 : Int32) (X : tg_X) (hl0 : tg_l X = l) (C : tg_C X D 3 cX0_shownAs RX0 0 0 0 0) (r : Int32) (hs : fX0_shownAs p0 p1 p2 = some r) (hE : tg_Ei X D 0 0 cX0_shownAs .int r []) : tg_G X D 3 0 0 [] [(0, .int p0), (1, .int p1), (2, .int p2)] 0 [] := by
  unfold fX0_shownAs at hs
  refine tg_bipush (v := 100) C dX0_shownAs_0 (by decide) ?_
  refine tg_iload_n C dX0_shownAs_2 rfl 0 rfl ?_
  refine tg_imul C dX0_shownAs_3 ?_
  refine tg_bipush (v := 10) C dX0_shownAs_4 (by decide) ?_
  refine tg_iload_n C dX0_shownAs_6 rfl 1 rfl ?_
  refine tg_imul C dX0_shownAs_7 ?_
  refine tg_iadd C dX0_shownAs_8 ?_
  refine tg_iload_n C dX0_shownAs_9 rfl 2 rfl ?_
  refine tg_iadd C dX0_shownAs_10 ?_
  obtain rfl := Option.some.inj hs
  exact tg_iret hE rfl dX0_shownAs_11
set_option maxHeartbeats 2000000 in
set_option maxRecDepth 20000 in
theorem kX0_shownAs (l : Launch) (D : tg_D) (p0 : Int32) (p1 : Int32) (p2 : Int32) (r : Int32) (hs : fX0_shownAs p0 p1 p2 = some r) : Met l yX0_shownAs [Cond.code yX0_shownAs cX0_shownAs 3 (some .int)] (tg_rm 0 0) (tg_Pre D [] [.int p0, .int p1, .int p2]) (vp_Si (fun r' => r' = r)) 0 0 (fun _ => False) := tg_metI (by decide) (Nat.le_of_ble_eq_true rfl) (fun X hl0 C hE => vX0_shownAs l D p0 p1 p2 X hl0 C r hs hE)
def fX4_bit (p0 : Int32) : Option (Int32) := some (1 <<< (p0 &&& 31))
set_option maxHeartbeats 2000000 in
set_option maxRecDepth 20000 in
theorem vX4_bit (l : Launch) (D : tg_D) (p0 : Int32) (X : tg_X) (hl0 : tg_l X = l) (C : tg_C X D 1 cX4_bit RX4 0 0 0 0) (r : Int32) (hs : fX4_bit p0 = some r) (hE : tg_Ei X D 0 0 cX4_bit .int r []) : tg_G X D 1 0 0 [] [(0, .int p0)] 0 [] := by
  unfold fX4_bit at hs
  refine tg_iconst (v := 1) C dX4_bit_0 (by decide) ?_
  refine tg_iload_n C dX4_bit_1 rfl 0 rfl ?_
  refine tg_ishl C dX4_bit_2 ?_
  obtain rfl := Option.some.inj hs
  exact tg_iret hE rfl dX4_bit_3
set_option maxHeartbeats 2000000 in
set_option maxRecDepth 20000 in
theorem kX4_bit (l : Launch) (D : tg_D) (p0 : Int32) (r : Int32) (hs : fX4_bit p0 = some r) : Met l yX4_bit [Cond.code yX4_bit cX4_bit 1 (some .int)] (tg_rm 0 0) (tg_Pre D [] [.int p0]) (vp_Si (fun r' => r' = r)) 0 0 (fun _ => False) := tg_metI (by decide) (Nat.le_of_ble_eq_true rfl) (fun X hl0 C hE => vX4_bit l D p0 X hl0 C r hs hE)
def fX0_alikePairs (p0 : Int32) (p1 : Int32) (p2 : Int32) : Option (Int32) := tg_b1 (if ¬ p0 = p1 then (some (0 : Int32)) else (some (1 : Int32))) fun (vv2 : Int32) => tg_b1 (if ¬ p1 = p2 then (some (0 : Int32)) else (some (1 : Int32))) fun (vv5 : Int32) => tg_b1 (if ¬ p0 = p2 then (some (0 : Int32)) else (some (1 : Int32))) fun (vv8 : Int32) => some ((vv2 + vv5) + vv8)
set_option maxHeartbeats 2000000 in
set_option maxRecDepth 20000 in
theorem vX0_alikePairs (l : Launch) (D : tg_D) (p0 : Int32) (p1 : Int32) (p2 : Int32) (X : tg_X) (hl0 : tg_l X = l) (C : tg_C X D 3 cX0_alikePairs RX0 0 0 0 0) (r : Int32) (hs : fX0_alikePairs p0 p1 p2 = some r) (hE : tg_Ei X D 0 0 cX0_alikePairs .int r []) : tg_G X D 3 0 0 [] [(0, .int p0), (1, .int p1), (2, .int p2)] 0 [] := by
  unfold fX0_alikePairs at hs
  refine tg_iload_n C dX0_alikePairs_0 rfl 0 rfl ?_
  refine tg_iload_n C dX0_alikePairs_1 rfl 1 rfl ?_
  obtain ⟨vv2, ee12, hs⟩ := tg_b1_e hs
  have JJ3 : tg_G X D 3 0 0 [] [(0, .int p0), (1, .int p1), (2, .int p2)] 10 [.int vv2] := by
    refine tg_iload_n C dX0_alikePairs_10 rfl 1 rfl ?_
    refine tg_iload_n C dX0_alikePairs_11 rfl 2 rfl ?_
    obtain ⟨vv5, ee11, hs⟩ := tg_b1_e hs
    have JJ6 : tg_G X D 3 0 0 [] [(0, .int p0), (1, .int p1), (2, .int p2)] 20 [.int vv5, .int vv2] := by
      refine tg_iadd C dX0_alikePairs_20 ?_
      refine tg_iload_n C dX0_alikePairs_21 rfl 0 rfl ?_
      refine tg_iload_n C dX0_alikePairs_22 rfl 2 rfl ?_
      obtain ⟨vv8, ee10, hs⟩ := tg_b1_e hs
      have JJ9 : tg_G X D 3 0 0 [] [(0, .int p0), (1, .int p1), (2, .int p2)] 31 [.int vv8, .int (vv2 + vv5)] := by
        refine tg_iadd C dX0_alikePairs_31 ?_
        obtain rfl := Option.some.inj hs
        exact tg_iret hE rfl dX0_alikePairs_32
      have hs := ee10
      clear ee10
      refine tg_icmp_ne (tgt := 30) C dX0_alikePairs_23 (by decide) (fun cc7 => ?_) (fun cc7 => ?_)
      · have hs := tg_t cc7 hs
        refine tg_iconst (v := 0) C dX0_alikePairs_30 (by decide) ?_
        obtain rfl := Option.some.inj hs
        exact JJ9
      · have hs := tg_nf cc7 hs
        refine tg_iconst (v := 1) C dX0_alikePairs_26 (by decide) ?_
        refine tg_goto (tgt := 31) C dX0_alikePairs_27 (by decide) ?_
        obtain rfl := Option.some.inj hs
        exact JJ9
    have hs := ee11
    clear ee11
    refine tg_icmp_ne (tgt := 19) C dX0_alikePairs_12 (by decide) (fun cc4 => ?_) (fun cc4 => ?_)
    · have hs := tg_t cc4 hs
      refine tg_iconst (v := 0) C dX0_alikePairs_19 (by decide) ?_
      obtain rfl := Option.some.inj hs
      exact JJ6
    · have hs := tg_nf cc4 hs
      refine tg_iconst (v := 1) C dX0_alikePairs_15 (by decide) ?_
      refine tg_goto (tgt := 20) C dX0_alikePairs_16 (by decide) ?_
      obtain rfl := Option.some.inj hs
      exact JJ6
  have hs := ee12
  clear ee12
  refine tg_icmp_ne (tgt := 9) C dX0_alikePairs_2 (by decide) (fun cc1 => ?_) (fun cc1 => ?_)
  · have hs := tg_t cc1 hs
    refine tg_iconst (v := 0) C dX0_alikePairs_9 (by decide) ?_
    obtain rfl := Option.some.inj hs
    exact JJ3
  · have hs := tg_nf cc1 hs
    refine tg_iconst (v := 1) C dX0_alikePairs_5 (by decide) ?_
    refine tg_goto (tgt := 10) C dX0_alikePairs_6 (by decide) ?_
    obtain rfl := Option.some.inj hs
    exact JJ3
set_option maxHeartbeats 2000000 in
set_option maxRecDepth 20000 in
theorem kX0_alikePairs (l : Launch) (D : tg_D) (p0 : Int32) (p1 : Int32) (p2 : Int32) (r : Int32) (hs : fX0_alikePairs p0 p1 p2 = some r) : Met l yX0_alikePairs [Cond.code yX0_alikePairs cX0_alikePairs 3 (some .int)] (tg_rm 0 0) (tg_Pre D [] [.int p0, .int p1, .int p2]) (vp_Si (fun r' => r' = r)) 0 0 (fun _ => False) := tg_metI (by decide) (Nat.le_of_ble_eq_true rfl) (fun X hl0 C hE => vX0_alikePairs l D p0 p1 p2 X hl0 C r hs hE)
def fJ6_bitCount_0f7a4 (p0 : Int32) : Option (Int32) := tg_nm (p0 - ((((p0).toUInt32 >>> (Int32.toUInt32 1 &&& Int32.toUInt32 31)).toInt32) &&& 1431655765)) fun vv1 => tg_nm ((vv1 &&& 858993459) + ((((vv1).toUInt32 >>> (Int32.toUInt32 2 &&& Int32.toUInt32 31)).toInt32) &&& 858993459)) fun vv2 => tg_nm ((vv2 + (((vv2).toUInt32 >>> (Int32.toUInt32 4 &&& Int32.toUInt32 31)).toInt32)) &&& 252645135) fun vv3 => tg_nm (vv3 + (((vv3).toUInt32 >>> (Int32.toUInt32 8 &&& Int32.toUInt32 31)).toInt32)) fun vv4 => tg_nm (vv4 + (((vv4).toUInt32 >>> (Int32.toUInt32 16 &&& Int32.toUInt32 31)).toInt32)) fun vv5 => some (vv5 &&& 63)
set_option maxHeartbeats 2000000 in
set_option maxRecDepth 20000 in
theorem vJ6_bitCount_0f7a4 (l : Launch) (D : tg_D) (p0 : Int32) (X : tg_X) (hl0 : tg_l X = l) (C : tg_C X D 1 cJ6_bitCount_0f7a4 RJ6 0 0 0 0) (r : Int32) (hs : fJ6_bitCount_0f7a4 p0 = some r) (hE : tg_Ei X D 0 0 cJ6_bitCount_0f7a4 .int r []) : tg_G X D 1 0 0 [] [(0, .int p0)] 0 [] := by
  unfold fJ6_bitCount_0f7a4 at hs
  refine tg_iload_n C dJ6_bitCount_0f7a4_0 rfl 0 rfl ?_
  refine tg_iload_n C dJ6_bitCount_0f7a4_1 rfl 0 rfl ?_
  refine tg_iconst (v := 1) C dJ6_bitCount_0f7a4_2 (by decide) ?_
  refine tg_iushr C dJ6_bitCount_0f7a4_3 ?_
  refine tg_ldcw C wm_396 dJ6_bitCount_0f7a4_4 ?_
  refine tg_iand C dJ6_bitCount_0f7a4_7 ?_
  refine tg_isub C dJ6_bitCount_0f7a4_8 ?_
  obtain ⟨vv1, evv1, hs⟩ := tg_nm_e hs
  refine tg_topi evv1 ?_
  refine tg_istore_n (lv' := [(0, .int vv1)]) C dJ6_bitCount_0f7a4_9 rfl (by decide) rfl ?_
  refine tg_iload_n C dJ6_bitCount_0f7a4_10 rfl 0 rfl ?_
  refine tg_ldcw C wm_397 dJ6_bitCount_0f7a4_11 ?_
  refine tg_iand C dJ6_bitCount_0f7a4_14 ?_
  refine tg_iload_n C dJ6_bitCount_0f7a4_15 rfl 0 rfl ?_
  refine tg_iconst (v := 2) C dJ6_bitCount_0f7a4_16 (by decide) ?_
  refine tg_iushr C dJ6_bitCount_0f7a4_17 ?_
  refine tg_ldcw C wm_397 dJ6_bitCount_0f7a4_18 ?_
  refine tg_iand C dJ6_bitCount_0f7a4_21 ?_
  refine tg_iadd C dJ6_bitCount_0f7a4_22 ?_
  obtain ⟨vv2, evv2, hs⟩ := tg_nm_e hs
  refine tg_topi evv2 ?_
  refine tg_istore_n (lv' := [(0, .int vv2)]) C dJ6_bitCount_0f7a4_23 rfl (by decide) rfl ?_
  refine tg_iload_n C dJ6_bitCount_0f7a4_24 rfl 0 rfl ?_
  refine tg_iload_n C dJ6_bitCount_0f7a4_25 rfl 0 rfl ?_
  refine tg_iconst (v := 4) C dJ6_bitCount_0f7a4_26 (by decide) ?_
  refine tg_iushr C dJ6_bitCount_0f7a4_27 ?_
  refine tg_iadd C dJ6_bitCount_0f7a4_28 ?_
  refine tg_ldcw C wm_398 dJ6_bitCount_0f7a4_29 ?_
  refine tg_iand C dJ6_bitCount_0f7a4_32 ?_
  obtain ⟨vv3, evv3, hs⟩ := tg_nm_e hs
  refine tg_topi evv3 ?_
  refine tg_istore_n (lv' := [(0, .int vv3)]) C dJ6_bitCount_0f7a4_33 rfl (by decide) rfl ?_
  refine tg_iload_n C dJ6_bitCount_0f7a4_34 rfl 0 rfl ?_
  refine tg_iload_n C dJ6_bitCount_0f7a4_35 rfl 0 rfl ?_
  refine tg_bipush (v := 8) C dJ6_bitCount_0f7a4_36 (by decide) ?_
  refine tg_iushr C dJ6_bitCount_0f7a4_38 ?_
  refine tg_iadd C dJ6_bitCount_0f7a4_39 ?_
  obtain ⟨vv4, evv4, hs⟩ := tg_nm_e hs
  refine tg_topi evv4 ?_
  refine tg_istore_n (lv' := [(0, .int vv4)]) C dJ6_bitCount_0f7a4_40 rfl (by decide) rfl ?_
  refine tg_iload_n C dJ6_bitCount_0f7a4_41 rfl 0 rfl ?_
  refine tg_iload_n C dJ6_bitCount_0f7a4_42 rfl 0 rfl ?_
  refine tg_bipush (v := 16) C dJ6_bitCount_0f7a4_43 (by decide) ?_
  refine tg_iushr C dJ6_bitCount_0f7a4_45 ?_
  refine tg_iadd C dJ6_bitCount_0f7a4_46 ?_
  obtain ⟨vv5, evv5, hs⟩ := tg_nm_e hs
  refine tg_topi evv5 ?_
  refine tg_istore_n (lv' := [(0, .int vv5)]) C dJ6_bitCount_0f7a4_47 rfl (by decide) rfl ?_
  refine tg_iload_n C dJ6_bitCount_0f7a4_48 rfl 0 rfl ?_
  refine tg_bipush (v := 63) C dJ6_bitCount_0f7a4_49 (by decide) ?_
  refine tg_iand C dJ6_bitCount_0f7a4_51 ?_
  obtain rfl := Option.some.inj hs
  exact tg_iret hE rfl dJ6_bitCount_0f7a4_52
set_option maxHeartbeats 2000000 in
set_option maxRecDepth 20000 in
theorem kJ6_bitCount_0f7a4 (l : Launch) (D : tg_D) (p0 : Int32) (r : Int32) (hs : fJ6_bitCount_0f7a4 p0 = some r) : Met l yJ6_bitCount_0f7a4 [Cond.code yJ6_bitCount_0f7a4 cJ6_bitCount_0f7a4 1 (some .int)] (tg_rm 0 0) (tg_Pre D [] [.int p0]) (vp_Si (fun r' => r' = r)) 0 0 (fun _ => False) := tg_metI (by decide) (Nat.le_of_ble_eq_true rfl) (fun X hl0 C hE => vJ6_bitCount_0f7a4 l D p0 X hl0 C r hs hE)
def fX4_hasBit (p0 : Int32) (p1 : Int32) : Option (Int32) := tg_b1 (fX4_bit p1) fun rr1 => if (p0 &&& rr1) = 0 then (some 0) else (some 1)
set_option maxHeartbeats 2000000 in
set_option maxRecDepth 20000 in
theorem vX4_hasBit (l : Launch) (D : tg_D) (p0 : Int32) (p1 : Int32) (X : tg_X) (hl0 : tg_l X = l) (C : tg_C X D 2 cX4_hasBit RX4 1 20 0 0) (r : Int32) (hs : fX4_hasBit p0 p1 = some r) (hE : tg_Ei X D 0 0 cX4_hasBit .boolean r []) : tg_G X D 2 0 0 [] [(0, .int p0), (1, .int p1)] 0 [] := by
  unfold fX4_hasBit at hs
  refine tg_iload_n C dX4_hasBit_0 rfl 0 rfl ?_
  refine tg_iload_n C dX4_hasBit_1 rfl 1 rfl ?_
  obtain ⟨rr1, ee2, hs⟩ := tg_b1_e hs
  refine tg_pS (As := [.int p1]) (rest := [.int p0]) C hl0 (kX4_bit l D p1 rr1 ee2) wm_375 meX4_bit (by decide) rfl rfl (Nat.le_of_ble_eq_true rfl) dX4_hasBit_2 ?_
  refine tg_iand C dX4_hasBit_5 ?_
  refine tg_if_eq (tgt := 13) C dX4_hasBit_6 (by decide) (fun cc3 => ?_) (fun cc3 => ?_)
  · have hs := tg_t cc3 hs
    refine tg_iconst (v := 0) C dX4_hasBit_13 (by decide) ?_
    obtain rfl := Option.some.inj hs
    exact tg_iret hE rfl dX4_hasBit_14
  · have hs := tg_f cc3 hs
    refine tg_iconst (v := 1) C dX4_hasBit_9 (by decide) ?_
    refine tg_goto (tgt := 14) C dX4_hasBit_10 (by decide) ?_
    obtain rfl := Option.some.inj hs
    exact tg_iret hE rfl dX4_hasBit_14
set_option maxHeartbeats 2000000 in
set_option maxRecDepth 20000 in
theorem kX4_hasBit (l : Launch) (D : tg_D) (p0 : Int32) (p1 : Int32) (r : Int32) (hs : fX4_hasBit p0 p1 = some r) : Met l yX4_hasBit [Cond.code yX4_hasBit cX4_hasBit 2 (some .boolean)] (tg_rm 1 20) (tg_Pre D [] [.int p0, .int p1]) (vp_Si (fun r' => r' = r)) 0 0 (fun _ => False) := tg_metI (by decide) (Nat.le_of_ble_eq_true rfl) (fun X hl0 C hE => vX4_hasBit l D p0 p1 X hl0 C r hs hE)
def fX4_isDie (p0 : Int32) : Option (Int32) := if p0 < 0 then (some 0) else (if 3 ≤ p0 then (some 0) else (some 1))
set_option maxHeartbeats 2000000 in
set_option maxRecDepth 20000 in
theorem vX4_isDie (l : Launch) (D : tg_D) (p0 : Int32) (X : tg_X) (hl0 : tg_l X = l) (C : tg_C X D 1 cX4_isDie RX4 0 0 0 0) (r : Int32) (hs : fX4_isDie p0 = some r) (hE : tg_Ei X D 0 0 cX4_isDie .boolean r []) : tg_G X D 1 0 0 [] [(0, .int p0)] 0 [] := by
  unfold fX4_isDie at hs
  refine tg_iload_n C dX4_isDie_0 rfl 0 rfl ?_
  refine tg_if_lt (tgt := 13) C dX4_isDie_1 (by decide) (fun cc1 => ?_) (fun cc1 => ?_)
  · have hs := tg_t cc1 hs
    refine tg_iconst (v := 0) C dX4_isDie_13 (by decide) ?_
    obtain rfl := Option.some.inj hs
    exact tg_iret hE rfl dX4_isDie_14
  · have hs := tg_f cc1 hs
    refine tg_iload_n C dX4_isDie_4 rfl 0 rfl ?_
    refine tg_iconst (v := 3) C dX4_isDie_5 (by decide) ?_
    refine tg_icmp_ge (tgt := 13) C dX4_isDie_6 (by decide) (fun cc2 => ?_) (fun cc2 => ?_)
    · have hs := tg_t cc2 hs
      refine tg_iconst (v := 0) C dX4_isDie_13 (by decide) ?_
      obtain rfl := Option.some.inj hs
      exact tg_iret hE rfl dX4_isDie_14
    · have hs := tg_f cc2 hs
      refine tg_iconst (v := 1) C dX4_isDie_9 (by decide) ?_
      refine tg_goto (tgt := 14) C dX4_isDie_10 (by decide) ?_
      obtain rfl := Option.some.inj hs
      exact tg_iret hE rfl dX4_isDie_14
set_option maxHeartbeats 2000000 in
set_option maxRecDepth 20000 in
theorem kX4_isDie (l : Launch) (D : tg_D) (p0 : Int32) (r : Int32) (hs : fX4_isDie p0 = some r) : Met l yX4_isDie [Cond.code yX4_isDie cX4_isDie 1 (some .boolean)] (tg_rm 0 0) (tg_Pre D [] [.int p0]) (vp_Si (fun r' => r' = r)) 0 0 (fun _ => False) := tg_metI (by decide) (Nat.le_of_ble_eq_true rfl) (fun X hl0 C hE => vX4_isDie l D p0 X hl0 C r hs hE)
def fX4_isPart (p0 : Int32) : Option (Int32) := if p0 = 0 then (some 1) else (if ¬ p0 = 1 then (some 0) else (some 1))
set_option maxHeartbeats 2000000 in
set_option maxRecDepth 20000 in
theorem vX4_isPart (l : Launch) (D : tg_D) (p0 : Int32) (X : tg_X) (hl0 : tg_l X = l) (C : tg_C X D 1 cX4_isPart RX4 0 0 0 0) (r : Int32) (hs : fX4_isPart p0 = some r) (hE : tg_Ei X D 0 0 cX4_isPart .boolean r []) : tg_G X D 1 0 0 [] [(0, .int p0)] 0 [] := by
  unfold fX4_isPart at hs
  refine tg_iload_n C dX4_isPart_0 rfl 0 rfl ?_
  refine tg_if_eq (tgt := 9) C dX4_isPart_1 (by decide) (fun cc1 => ?_) (fun cc1 => ?_)
  · have hs := tg_t cc1 hs
    refine tg_iconst (v := 1) C dX4_isPart_9 (by decide) ?_
    refine tg_goto (tgt := 14) C dX4_isPart_10 (by decide) ?_
    obtain rfl := Option.some.inj hs
    exact tg_iret hE rfl dX4_isPart_14
  · have hs := tg_f cc1 hs
    refine tg_iload_n C dX4_isPart_4 rfl 0 rfl ?_
    refine tg_iconst (v := 1) C dX4_isPart_5 (by decide) ?_
    refine tg_icmp_ne (tgt := 13) C dX4_isPart_6 (by decide) (fun cc2 => ?_) (fun cc2 => ?_)
    · have hs := tg_t cc2 hs
      refine tg_iconst (v := 0) C dX4_isPart_13 (by decide) ?_
      obtain rfl := Option.some.inj hs
      exact tg_iret hE rfl dX4_isPart_14
    · have hs := tg_nf cc2 hs
      refine tg_iconst (v := 1) C dX4_isPart_9 (by decide) ?_
      refine tg_goto (tgt := 14) C dX4_isPart_10 (by decide) ?_
      obtain rfl := Option.some.inj hs
      exact tg_iret hE rfl dX4_isPart_14
set_option maxHeartbeats 2000000 in
set_option maxRecDepth 20000 in
theorem kX4_isPart (l : Launch) (D : tg_D) (p0 : Int32) (r : Int32) (hs : fX4_isPart p0 = some r) : Met l yX4_isPart [Cond.code yX4_isPart cX4_isPart 1 (some .boolean)] (tg_rm 0 0) (tg_Pre D [] [.int p0]) (vp_Si (fun r' => r' = r)) 0 0 (fun _ => False) := tg_metI (by decide) (Nat.le_of_ble_eq_true rfl) (fun X hl0 C hE => vX4_isPart l D p0 X hl0 C r hs hE)
def fX4_commonOf_L7 : Nat → Int32 → Int32 → Int32 → Option (Int32 × Int32 × Int32)
  | 0, _, _, _ => none
  | fuel + 1, n2, n3, n4 => if 100 ≤ n4 then (some (n2, n3, n4)) else (if n3 = 0 then (some (n2, n3, n4)) else (tg_dz n3 <| tg_nm (n2 - n2 / n3 * n3) fun vv4 => tg_nm (n4 + 1) fun vv5 => fX4_commonOf_L7 fuel n3 vv4 vv5))
def fX4_commonOf (p0 : Int32) (p1 : Int32) : Option (Int32) := tg_b3 (fX4_commonOf_L7 400 p0 p1 0) fun vv6 vv7 vv8 => some vv6
set_option maxHeartbeats 2000000 in
set_option maxRecDepth 20000 in
theorem vX4_commonOf_L7 (l : Launch) (D : tg_D) (n0 : Int32) (n1 : Int32) (X : tg_X) (hl0 : tg_l X = l) (C : tg_C X D 6 cX4_commonOf RX4 0 0 0 0) (o_n2 : Int32) (o_n3 : Int32) (o_n4 : Int32) : ∀ (fuel : Nat) (n2 : Int32) (n3 : Int32) (n4 : Int32), fX4_commonOf_L7 fuel n2 n3 n4 = some (o_n2, o_n3, o_n4) → tg_G X D 6 0 0 [] [(0, .int n0), (1, .int n1), (2, .int o_n2), (3, .int o_n3), (4, .int o_n4)] 34 [] → tg_G X D 6 0 0 [] [(0, .int n0), (1, .int n1), (2, .int n2), (3, .int n3), (4, .int n4)] 7 [] := by
  intro fuel
  induction fuel with
  | zero =>
    intro n2 n3 n4 hs _
    rw [fX4_commonOf_L7] at hs
    cases hs
  | succ fuel ih =>
    intro n2 n3 n4 hs J
    rw [fX4_commonOf_L7] at hs
    refine tg_iload C dX4_commonOf_7 4 rfl ?_
    refine tg_bipush (v := 100) C dX4_commonOf_9 (by decide) ?_
    refine tg_icmp_ge (tgt := 34) C dX4_commonOf_11 (by decide) (fun cc1 => ?_) (fun cc1 => ?_)
    · have hs := tg_t cc1 hs
      obtain ⟨rfl, rfl, rfl⟩ := tg_i3 hs
      exact J
    · have hs := tg_f cc1 hs
      refine tg_iload_n C dX4_commonOf_14 rfl 3 rfl ?_
      refine tg_if_eq (tgt := 34) C dX4_commonOf_15 (by decide) (fun cc2 => ?_) (fun cc2 => ?_)
      · have hs := tg_t cc2 hs
        obtain ⟨rfl, rfl, rfl⟩ := tg_i3 hs
        exact J
      · have hs := tg_f cc2 hs
        refine tg_iload_n C dX4_commonOf_18 rfl 2 rfl ?_
        refine tg_iload_n C dX4_commonOf_19 rfl 3 rfl ?_
        obtain ⟨hh3, hs⟩ := tg_dz_e hs
        refine tg_irem C hh3 dX4_commonOf_20 ?_
        obtain ⟨vv4, evv4, hs⟩ := tg_nm_e hs
        refine tg_topi evv4 ?_
        refine tg_istore (lv' := [(5, .int vv4), (0, .int n0), (1, .int n1), (2, .int n2), (3, .int n3), (4, .int n4)]) C dX4_commonOf_21 (by decide) rfl ?_
        refine tg_iload_n C dX4_commonOf_23 rfl 4 rfl ?_
        refine tg_istore_n (lv' := [(2, .int n3), (5, .int vv4), (0, .int n0), (1, .int n1), (3, .int n3), (4, .int n4)]) C dX4_commonOf_24 rfl (by decide) rfl ?_
        refine tg_iload C dX4_commonOf_25 1 rfl ?_
        refine tg_istore_n (lv' := [(3, .int vv4), (2, .int n3), (5, .int vv4), (0, .int n0), (1, .int n1), (4, .int n4)]) C dX4_commonOf_27 rfl (by decide) rfl ?_
        obtain ⟨vv5, evv5, hs⟩ := tg_nm_e hs
        refine tg_iinc (v := vv5) (lv' := [(4, .int vv5), (3, .int vv4), (2, .int n3), (5, .int vv4), (0, .int n0), (1, .int n1)]) C dX4_commonOf_28 5 rfl (by rw [evv5]; rfl) (by decide) rfl ?_
        refine tg_goto (tgt := 7) C dX4_commonOf_31 (by decide) ?_
        refine tg_lsub [4, 5, 2, 1, 0] rfl ?_
        exact ih n3 vv4 vv5 hs J
set_option maxHeartbeats 2000000 in
set_option maxRecDepth 20000 in
theorem vX4_commonOf (l : Launch) (D : tg_D) (p0 : Int32) (p1 : Int32) (X : tg_X) (hl0 : tg_l X = l) (C : tg_C X D 6 cX4_commonOf RX4 0 0 0 0) (r : Int32) (hs : fX4_commonOf p0 p1 = some r) (hE : tg_Ei X D 0 0 cX4_commonOf .int r []) : tg_G X D 6 0 0 [] [(0, .int p0), (1, .int p1)] 0 [] := by
  unfold fX4_commonOf at hs
  refine tg_iload_n C dX4_commonOf_0 rfl 0 rfl ?_
  refine tg_istore_n (lv' := [(2, .int p0), (0, .int p0), (1, .int p1)]) C dX4_commonOf_1 rfl (by decide) rfl ?_
  refine tg_iload_n C dX4_commonOf_2 rfl 2 rfl ?_
  refine tg_istore_n (lv' := [(3, .int p1), (2, .int p0), (0, .int p0), (1, .int p1)]) C dX4_commonOf_3 rfl (by decide) rfl ?_
  refine tg_iconst (v := 0) C dX4_commonOf_4 (by decide) ?_
  refine tg_istore (lv' := [(4, .int 0), (3, .int p1), (2, .int p0), (0, .int p0), (1, .int p1)]) C dX4_commonOf_5 (by decide) rfl ?_
  refine tg_lsub [3, 4, 2, 1, 0] rfl ?_
  obtain ⟨vv6, vv7, vv8, ee9, hs⟩ := tg_b3_e hs
  refine vX4_commonOf_L7 l D p0 p1 X hl0 C vv6 vv7 vv8 400 p0 p1 0 ee9 ?_
  refine tg_iload_n C dX4_commonOf_34 rfl 2 rfl ?_
  obtain rfl := Option.some.inj hs
  exact tg_iret hE rfl dX4_commonOf_35
set_option maxHeartbeats 2000000 in
set_option maxRecDepth 20000 in
theorem kX4_commonOf (l : Launch) (D : tg_D) (p0 : Int32) (p1 : Int32) (r : Int32) (hs : fX4_commonOf p0 p1 = some r) : Met l yX4_commonOf [Cond.code yX4_commonOf cX4_commonOf 6 (some .int)] (tg_rm 0 0) (tg_Pre D [] [.int p0, .int p1]) (vp_Si (fun r' => r' = r)) 0 0 (fun _ => False) := tg_metI (by decide) (Nat.le_of_ble_eq_true rfl) (fun X hl0 C hE => vX4_commonOf l D p0 p1 X hl0 C r hs hE)
def fX4_partOf (p0 : Int32) (p1 : Int32) (p2 : Int32) : Option (Int32) := tg_b1 (fX4_commonOf p0 p1) fun rr1 => tg_b1 (if ¬ p2 = 0 then (some p1) else (some p0)) fun (vv4 : Int32) => if ¬ rr1 = 0 then (tg_dz rr1 <| some (vv4 / rr1)) else (some vv4)
set_option maxHeartbeats 2000000 in
set_option maxRecDepth 20000 in
theorem vX4_partOf (l : Launch) (D : tg_D) (p0 : Int32) (p1 : Int32) (p2 : Int32) (X : tg_X) (hl0 : tg_l X = l) (C : tg_C X D 5 cX4_partOf RX4 1 25 0 0) (r : Int32) (hs : fX4_partOf p0 p1 p2 = some r) (hE : tg_Ei X D 0 0 cX4_partOf .int r []) : tg_G X D 5 0 0 [] [(0, .int p0), (1, .int p1), (2, .int p2)] 0 [] := by
  unfold fX4_partOf at hs
  refine tg_iload_n C dX4_partOf_0 rfl 0 rfl ?_
  refine tg_iload_n C dX4_partOf_1 rfl 1 rfl ?_
  obtain ⟨rr1, ee2, hs⟩ := tg_b1_e hs
  refine tg_pS (As := [.int p0, .int p1]) (rest := []) C hl0 (kX4_commonOf l D p0 p1 rr1 ee2) wm_542 meX4_commonOf (by decide) rfl rfl (Nat.le_of_ble_eq_true rfl) dX4_partOf_2 ?_
  refine tg_istore_n (lv' := [(3, .int rr1), (0, .int p0), (1, .int p1), (2, .int p2)]) C dX4_partOf_5 rfl (by decide) rfl ?_
  refine tg_iload_n C dX4_partOf_6 rfl 3 rfl ?_
  obtain ⟨vv4, ee8, hs⟩ := tg_b1_e hs
  have JJ5 : tg_G X D 5 0 0 [] [(0, .int p0), (1, .int p1), (2, .int p2), (3, .int rr1)] 15 [.int vv4] := by
    refine tg_istore (lv' := [(4, .int vv4), (0, .int p0), (1, .int p1), (2, .int p2), (3, .int rr1)]) C dX4_partOf_15 (by decide) rfl ?_
    refine tg_iload_n C dX4_partOf_17 rfl 4 rfl ?_
    refine tg_if_ne (tgt := 26) C dX4_partOf_18 (by decide) (fun cc6 => ?_) (fun cc6 => ?_)
    · have hs := tg_t cc6 hs
      refine tg_iload C dX4_partOf_26 0 rfl ?_
      refine tg_iload_n C dX4_partOf_28 rfl 4 rfl ?_
      obtain ⟨hh7, hs⟩ := tg_dz_e hs
      refine tg_idiv C hh7 dX4_partOf_29 ?_
      obtain rfl := Option.some.inj hs
      exact tg_iret hE rfl dX4_partOf_30
    · have hs := tg_nf cc6 hs
      refine tg_iload C dX4_partOf_21 0 rfl ?_
      refine tg_goto (tgt := 30) C dX4_partOf_23 (by decide) ?_
      obtain rfl := Option.some.inj hs
      exact tg_iret hE rfl dX4_partOf_30
  have hs := ee8
  clear ee8
  refine tg_if_ne (tgt := 14) C dX4_partOf_7 (by decide) (fun cc3 => ?_) (fun cc3 => ?_)
  · have hs := tg_t cc3 hs
    refine tg_iload_n C dX4_partOf_14 rfl 2 rfl ?_
    obtain rfl := Option.some.inj hs
    refine tg_lsub [1, 2, 3, 0] rfl ?_
    exact JJ5
  · have hs := tg_nf cc3 hs
    refine tg_iload_n C dX4_partOf_10 rfl 1 rfl ?_
    refine tg_goto (tgt := 15) C dX4_partOf_11 (by decide) ?_
    obtain rfl := Option.some.inj hs
    refine tg_lsub [1, 2, 3, 0] rfl ?_
    exact JJ5
set_option maxHeartbeats 2000000 in
set_option maxRecDepth 20000 in
theorem kX4_partOf (l : Launch) (D : tg_D) (p0 : Int32) (p1 : Int32) (p2 : Int32) (r : Int32) (hs : fX4_partOf p0 p1 p2 = some r) : Met l yX4_partOf [Cond.code yX4_partOf cX4_partOf 5 (some .int)] (tg_rm 1 25) (tg_Pre D [] [.int p0, .int p1, .int p2]) (vp_Si (fun r' => r' = r)) 0 0 (fun _ => False) := tg_metI (by decide) (Nat.le_of_ble_eq_true rfl) (fun X hl0 C hE => vX4_partOf l D p0 p1 p2 X hl0 C r hs hE)
def fX4_isImage (p0 : Int32) : Option (Int32) := if p0 < 0 then (some 0) else (if 2 ≤ p0 then (some 0) else (some 1))
set_option maxHeartbeats 2000000 in
set_option maxRecDepth 20000 in
theorem vX4_isImage (l : Launch) (D : tg_D) (p0 : Int32) (X : tg_X) (hl0 : tg_l X = l) (C : tg_C X D 1 cX4_isImage RX4 0 0 0 0) (r : Int32) (hs : fX4_isImage p0 = some r) (hE : tg_Ei X D 0 0 cX4_isImage .boolean r []) : tg_G X D 1 0 0 [] [(0, .int p0)] 0 [] := by
  unfold fX4_isImage at hs
  refine tg_iload_n C dX4_isImage_0 rfl 0 rfl ?_
  refine tg_if_lt (tgt := 13) C dX4_isImage_1 (by decide) (fun cc1 => ?_) (fun cc1 => ?_)
  · have hs := tg_t cc1 hs
    refine tg_iconst (v := 0) C dX4_isImage_13 (by decide) ?_
    obtain rfl := Option.some.inj hs
    exact tg_iret hE rfl dX4_isImage_14
  · have hs := tg_f cc1 hs
    refine tg_iload_n C dX4_isImage_4 rfl 0 rfl ?_
    refine tg_iconst (v := 2) C dX4_isImage_5 (by decide) ?_
    refine tg_icmp_ge (tgt := 13) C dX4_isImage_6 (by decide) (fun cc2 => ?_) (fun cc2 => ?_)
    · have hs := tg_t cc2 hs
      refine tg_iconst (v := 0) C dX4_isImage_13 (by decide) ?_
      obtain rfl := Option.some.inj hs
      exact tg_iret hE rfl dX4_isImage_14
    · have hs := tg_f cc2 hs
      refine tg_iconst (v := 1) C dX4_isImage_9 (by decide) ?_
      refine tg_goto (tgt := 14) C dX4_isImage_10 (by decide) ?_
      obtain rfl := Option.some.inj hs
      exact tg_iret hE rfl dX4_isImage_14
set_option maxHeartbeats 2000000 in
set_option maxRecDepth 20000 in
theorem kX4_isImage (l : Launch) (D : tg_D) (p0 : Int32) (r : Int32) (hs : fX4_isImage p0 = some r) : Met l yX4_isImage [Cond.code yX4_isImage cX4_isImage 1 (some .boolean)] (tg_rm 0 0) (tg_Pre D [] [.int p0]) (vp_Si (fun r' => r' = r)) 0 0 (fun _ => False) := tg_metI (by decide) (Nat.le_of_ble_eq_true rfl) (fun X hl0 C hE => vX4_isImage l D p0 X hl0 C r hs hE)
