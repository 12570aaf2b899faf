def fX3_pip (t_pips : Nat → Int32) (p1 : Int32) (p2 : Int32) : Option (Int32) := tg_ck ((p1 * 6) + p2) 18 <| some (t_pips (Int32.toNatClampNeg ((p1 * 6) + p2)))
set_option maxHeartbeats 2000000 in
set_option maxRecDepth 20000 in
theorem vX3_pip (l : Launch) (D : tg_D) (t0 t1 t2 : Nat) (t_pips : Nat → Int32) (t_many : Nat → Int32) (t_berths : Int32) (t_goal : Int32) (p1 : Int32) (p2 : Int32) (X : tg_X) (hl0 : tg_l X = l) (C : tg_C X D 3 cX3_pip RX3 0 0 0 0) (r : Int32) (hs : fX3_pip t_pips p1 p2 = some r) (hE : tg_Ei X D 0 0 cX3_pip .int r (tw_T D t0 t1 t2 t_pips t_many t_berths t_goal)) : tg_G X D 3 0 0 (tw_T D t0 t1 t2 t_pips t_many t_berths t_goal) [(0, .ref t0), (1, .int p1), (2, .int p2)] 0 [] := by
  unfold fX3_pip at hs
  refine tg_aload_n C dX3_pip_0 rfl 0 rfl ?_
  refine tg_get (v := .ref t1) C cfX3 0 rfl 0 (by decide) wm_89 rfl dX3_pip_1 ?_
  refine tg_iload_n C dX3_pip_4 rfl 1 rfl ?_
  refine tg_bipush (v := 6) C dX3_pip_5 (by decide) ?_
  refine tg_imul C dX3_pip_7 ?_
  refine tg_iload_n C dX3_pip_8 rfl 2 rfl ?_
  refine tg_iadd C dX3_pip_9 ?_
  obtain ⟨hh1, hs⟩ := tg_ck_e hs
  refine tg_iald C 1 0 rfl rfl hh1 dX3_pip_10 ?_
  obtain rfl := Option.some.inj hs
  exact tg_iret hE rfl dX3_pip_11
set_option maxHeartbeats 2000000 in
set_option maxRecDepth 20000 in
theorem kX3_pip (l : Launch) (D : tg_D) (t0 t1 t2 : Nat) (t_pips : Nat → Int32) (t_many : Nat → Int32) (t_berths : Int32) (t_goal : Int32) (p1 : Int32) (p2 : Int32) (r : Int32) (hs : fX3_pip t_pips p1 p2 = some r) : Met l yX3_pip [Cond.code yX3_pip cX3_pip 3 (some .int)] (tg_rm 0 0) (tg_Pre D (tw_T D t0 t1 t2 t_pips t_many t_berths t_goal) [.ref t0, .int p1, .int p2]) (vp_Si (fun r' => r' = r)) 0 0 (fun _ => False) := tg_metI (by decide) (Nat.le_of_ble_eq_true rfl) (fun X hl0 C hE => vX3_pip l D t0 t1 t2 t_pips t_many t_berths t_goal p1 p2 X hl0 C r hs hE)
def fX3_berthBit (t_berths : Int32) (p1 : Int32) (p2 : Int32) : Option (Int32) := if p1 < 1 then (some 0) else (if p1 ≤ t_berths then (tg_b1 (if ¬ p2 = 0 then (some ((t_berths + 1) - p1)) else (some p1)) fun (vv4 : Int32) => tg_b1 (fX4_bit vv4) fun rr6 => some rr6) else (some 0))
set_option maxHeartbeats 2000000 in
set_option maxRecDepth 20000 in
theorem vX3_berthBit (l : Launch) (D : tg_D) (t0 t1 t2 : Nat) (t_pips : Nat → Int32) (t_many : Nat → Int32) (t_berths : Int32) (t_goal : Int32) (p1 : Int32) (p2 : Int32) (X : tg_X) (hl0 : tg_l X = l) (C : tg_C X D 3 cX3_berthBit RX3 1 20 0 0) (r : Int32) (hs : fX3_berthBit t_berths p1 p2 = some r) (hE : tg_Ei X D 0 0 cX3_berthBit .int r (tw_T D t0 t1 t2 t_pips t_many t_berths t_goal)) : tg_G X D 3 0 0 (tw_T D t0 t1 t2 t_pips t_many t_berths t_goal) [(0, .ref t0), (1, .int p1), (2, .int p2)] 0 [] := by
  unfold fX3_berthBit at hs
  refine tg_iload_n C dX3_berthBit_0 rfl 1 rfl ?_
  refine tg_iconst (v := 1) C dX3_berthBit_1 (by decide) ?_
  refine tg_icmp_lt (tgt := 13) C dX3_berthBit_2 (by decide) (fun cc1 => ?_) (fun cc1 => ?_)
  · have hs := tg_t cc1 hs
    refine tg_iconst (v := 0) C dX3_berthBit_13 (by decide) ?_
    obtain rfl := Option.some.inj hs
    exact tg_iret hE rfl dX3_berthBit_14
  · have hs := tg_f cc1 hs
    refine tg_iload_n C dX3_berthBit_5 rfl 1 rfl ?_
    refine tg_aload_n C dX3_berthBit_6 rfl 0 rfl ?_
    refine tg_get (v := .int t_berths) C cfX3 0 rfl 2 (by decide) wm_95 rfl dX3_berthBit_7 ?_
    refine tg_icmp_le (tgt := 15) C dX3_berthBit_10 (by decide) (fun cc2 => ?_) (fun cc2 => ?_)
    · have hs := tg_t cc2 hs
      refine tg_iload_n C dX3_berthBit_15 rfl 2 rfl ?_
      obtain ⟨vv4, ee8, hs⟩ := tg_b1_e hs
      have JJ5 : tg_G X D 3 0 0 (tw_T D t0 t1 t2 t_pips t_many t_berths t_goal) [(0, .ref t0), (1, .int p1), (2, .int p2)] 31 [.int vv4] := by
        obtain ⟨rr6, ee7, hs⟩ := tg_b1_e hs
        refine tg_pN (As := [.int vv4]) (rest := []) C hl0 (kX4_bit l D vv4 rr6 ee7) wm_233 meX4_bit (by decide) rfl rfl (Nat.le_of_ble_eq_true rfl) dX3_berthBit_31 ?_
        obtain rfl := Option.some.inj hs
        exact tg_iret hE rfl dX3_berthBit_34
      have hs := ee8
      clear ee8
      refine tg_if_ne (tgt := 23) C dX3_berthBit_16 (by decide) (fun cc3 => ?_) (fun cc3 => ?_)
      · have hs := tg_t cc3 hs
        refine tg_aload_n C dX3_berthBit_23 rfl 0 rfl ?_
        refine tg_get (v := .int t_berths) C cfX3 0 rfl 2 (by decide) wm_95 rfl dX3_berthBit_24 ?_
        refine tg_iconst (v := 1) C dX3_berthBit_27 (by decide) ?_
        refine tg_iadd C dX3_berthBit_28 ?_
        refine tg_iload_n C dX3_berthBit_29 rfl 1 rfl ?_
        refine tg_isub C dX3_berthBit_30 ?_
        obtain rfl := Option.some.inj hs
        exact JJ5
      · have hs := tg_nf cc3 hs
        refine tg_iload_n C dX3_berthBit_19 rfl 1 rfl ?_
        refine tg_goto (tgt := 31) C dX3_berthBit_20 (by decide) ?_
        obtain rfl := Option.some.inj hs
        exact JJ5
    · have hs := tg_f cc2 hs
      refine tg_iconst (v := 0) C dX3_berthBit_13 (by decide) ?_
      obtain rfl := Option.some.inj hs
      exact tg_iret hE rfl dX3_berthBit_14
set_option maxHeartbeats 2000000 in
set_option maxRecDepth 20000 in
theorem kX3_berthBit (l : Launch) (D : tg_D) (t0 t1 t2 : Nat) (t_pips : Nat → Int32) (t_many : Nat → Int32) (t_berths : Int32) (t_goal : Int32) (p1 : Int32) (p2 : Int32) (r : Int32) (hs : fX3_berthBit t_berths p1 p2 = some r) : Met l yX3_berthBit [Cond.code yX3_berthBit cX3_berthBit 3 (some .int)] (tg_rm 1 20) (tg_Pre D (tw_T D t0 t1 t2 t_pips t_many t_berths t_goal) [.ref t0, .int p1, .int p2]) (vp_Si (fun r' => r' = r)) 0 0 (fun _ => False) := tg_metI (by decide) (Nat.le_of_ble_eq_true rfl) (fun X hl0 C hE => vX3_berthBit l D t0 t1 t2 t_pips t_many t_berths t_goal p1 p2 X hl0 C r hs hE)
def fX3_opens (t_berths : Int32) (p1 : Int32) (p2 : Int32) (p3 : Int32) (p4 : Int32) : Option (Int32) := tg_b1 (fX3_berthBit t_berths p1 p4) fun rr1 => tg_b1 (fX3_berthBit t_berths p2 p4) fun rr3 => tg_b1 (fX3_berthBit t_berths p3 p4) fun rr5 => tg_b1 (fX3_berthBit t_berths (p1 + p2) p4) fun rr7 => tg_b1 (fX3_berthBit t_berths (p1 + p3) p4) fun rr9 => tg_b1 (fX3_berthBit t_berths (p2 + p3) p4) fun rr11 => tg_b1 (fX3_berthBit t_berths ((p1 + p2) + p3) p4) fun rr13 => some ((((((rr1 ||| rr3) ||| rr5) ||| rr7) ||| rr9) ||| rr11) ||| rr13)
set_option maxHeartbeats 2000000 in
set_option maxRecDepth 20000 in
theorem vX3_opens (l : Launch) (D : tg_D) (t0 t1 t2 : Nat) (t_pips : Nat → Int32) (t_many : Nat → Int32) (t_berths : Int32) (t_goal : Int32) (p1 : Int32) (p2 : Int32) (p3 : Int32) (p4 : Int32) (X : tg_X) (hl0 : tg_l X = l) (C : tg_C X D 5 cX3_opens RX3 2 42 0 0) (r : Int32) (hs : fX3_opens t_berths p1 p2 p3 p4 = some r) (hE : tg_Ei X D 0 0 cX3_opens .int r (tw_T D t0 t1 t2 t_pips t_many t_berths t_goal)) : tg_G X D 5 0 0 (tw_T D t0 t1 t2 t_pips t_many t_berths t_goal) [(0, .ref t0), (1, .int p1), (2, .int p2), (3, .int p3), (4, .int p4)] 0 [] := by
  unfold fX3_opens at hs
  refine tg_aload_n C dX3_opens_0 rfl 0 rfl ?_
  refine tg_iload_n C dX3_opens_1 rfl 1 rfl ?_
  refine tg_iload C dX3_opens_2 4 rfl ?_
  obtain ⟨rr1, ee2, hs⟩ := tg_b1_e hs
  refine tg_pVs (As := [.int p1, .int p4]) (rest := []) C hl0 (kX3_berthBit l D t0 t1 t2 t_pips t_many t_berths t_goal p1 p4 rr1 ee2) wm_229 meX3_berthBit (by decide) rfl rfl rfl rfl (Nat.le_of_ble_eq_true rfl) dX3_opens_4 ?_
  refine tg_aload_n C dX3_opens_7 rfl 0 rfl ?_
  refine tg_iload_n C dX3_opens_8 rfl 2 rfl ?_
  refine tg_iload C dX3_opens_9 4 rfl ?_
  obtain ⟨rr3, ee4, hs⟩ := tg_b1_e hs
  refine tg_pVs (As := [.int p2, .int p4]) (rest := [.int rr1]) C hl0 (kX3_berthBit l D t0 t1 t2 t_pips t_many t_berths t_goal p2 p4 rr3 ee4) wm_229 meX3_berthBit (by decide) rfl rfl rfl rfl (Nat.le_of_ble_eq_true rfl) dX3_opens_11 ?_
  refine tg_ior C dX3_opens_14 ?_
  refine tg_aload_n C dX3_opens_15 rfl 0 rfl ?_
  refine tg_iload_n C dX3_opens_16 rfl 3 rfl ?_
  refine tg_iload C dX3_opens_17 4 rfl ?_
  obtain ⟨rr5, ee6, hs⟩ := tg_b1_e hs
  refine tg_pVs (As := [.int p3, .int p4]) (rest := [.int (rr1 ||| rr3)]) C hl0 (kX3_berthBit l D t0 t1 t2 t_pips t_many t_berths t_goal p3 p4 rr5 ee6) wm_229 meX3_berthBit (by decide) rfl rfl rfl rfl (Nat.le_of_ble_eq_true rfl) dX3_opens_19 ?_
  refine tg_ior C dX3_opens_22 ?_
  refine tg_aload_n C dX3_opens_23 rfl 0 rfl ?_
  refine tg_iload_n C dX3_opens_24 rfl 1 rfl ?_
  refine tg_iload_n C dX3_opens_25 rfl 2 rfl ?_
  refine tg_iadd C dX3_opens_26 ?_
  refine tg_iload C dX3_opens_27 4 rfl ?_
  obtain ⟨rr7, ee8, hs⟩ := tg_b1_e hs
  refine tg_pVs (As := [.int (p1 + p2), .int p4]) (rest := [.int ((rr1 ||| rr3) ||| rr5)]) C hl0 (kX3_berthBit l D t0 t1 t2 t_pips t_many t_berths t_goal (p1 + p2) p4 rr7 ee8) wm_229 meX3_berthBit (by decide) rfl rfl rfl rfl (Nat.le_of_ble_eq_true rfl) dX3_opens_29 ?_
  refine tg_ior C dX3_opens_32 ?_
  refine tg_aload_n C dX3_opens_33 rfl 0 rfl ?_
  refine tg_iload_n C dX3_opens_34 rfl 1 rfl ?_
  refine tg_iload_n C dX3_opens_35 rfl 3 rfl ?_
  refine tg_iadd C dX3_opens_36 ?_
  refine tg_iload C dX3_opens_37 4 rfl ?_
  obtain ⟨rr9, ee10, hs⟩ := tg_b1_e hs
  refine tg_pVs (As := [.int (p1 + p3), .int p4]) (rest := [.int (((rr1 ||| rr3) ||| rr5) ||| rr7)]) C hl0 (kX3_berthBit l D t0 t1 t2 t_pips t_many t_berths t_goal (p1 + p3) p4 rr9 ee10) wm_229 meX3_berthBit (by decide) rfl rfl rfl rfl (Nat.le_of_ble_eq_true rfl) dX3_opens_39 ?_
  refine tg_ior C dX3_opens_42 ?_
  refine tg_aload_n C dX3_opens_43 rfl 0 rfl ?_
  refine tg_iload_n C dX3_opens_44 rfl 2 rfl ?_
  refine tg_iload_n C dX3_opens_45 rfl 3 rfl ?_
  refine tg_iadd C dX3_opens_46 ?_
  refine tg_iload C dX3_opens_47 4 rfl ?_
  obtain ⟨rr11, ee12, hs⟩ := tg_b1_e hs
  refine tg_pVs (As := [.int (p2 + p3), .int p4]) (rest := [.int ((((rr1 ||| rr3) ||| rr5) ||| rr7) ||| rr9)]) C hl0 (kX3_berthBit l D t0 t1 t2 t_pips t_many t_berths t_goal (p2 + p3) p4 rr11 ee12) wm_229 meX3_berthBit (by decide) rfl rfl rfl rfl (Nat.le_of_ble_eq_true rfl) dX3_opens_49 ?_
  refine tg_ior C dX3_opens_52 ?_
  refine tg_aload_n C dX3_opens_53 rfl 0 rfl ?_
  refine tg_iload_n C dX3_opens_54 rfl 1 rfl ?_
  refine tg_iload_n C dX3_opens_55 rfl 2 rfl ?_
  refine tg_iadd C dX3_opens_56 ?_
  refine tg_iload_n C dX3_opens_57 rfl 3 rfl ?_
  refine tg_iadd C dX3_opens_58 ?_
  refine tg_iload C dX3_opens_59 4 rfl ?_
  obtain ⟨rr13, ee14, hs⟩ := tg_b1_e hs
  refine tg_pVs (As := [.int ((p1 + p2) + p3), .int p4]) (rest := [.int (((((rr1 ||| rr3) ||| rr5) ||| rr7) ||| rr9) ||| rr11)]) C hl0 (kX3_berthBit l D t0 t1 t2 t_pips t_many t_berths t_goal ((p1 + p2) + p3) p4 rr13 ee14) wm_229 meX3_berthBit (by decide) rfl rfl rfl rfl (Nat.le_of_ble_eq_true rfl) dX3_opens_61 ?_
  refine tg_ior C dX3_opens_64 ?_
  obtain rfl := Option.some.inj hs
  exact tg_iret hE rfl dX3_opens_65
set_option maxHeartbeats 2000000 in
set_option maxRecDepth 20000 in
theorem kX3_opens (l : Launch) (D : tg_D) (t0 t1 t2 : Nat) (t_pips : Nat → Int32) (t_many : Nat → Int32) (t_berths : Int32) (t_goal : Int32) (p1 : Int32) (p2 : Int32) (p3 : Int32) (p4 : Int32) (r : Int32) (hs : fX3_opens t_berths p1 p2 p3 p4 = some r) : Met l yX3_opens [Cond.code yX3_opens cX3_opens 5 (some .int)] (tg_rm 2 42) (tg_Pre D (tw_T D t0 t1 t2 t_pips t_many t_berths t_goal) [.ref t0, .int p1, .int p2, .int p3, .int p4]) (vp_Si (fun r' => r' = r)) 0 0 (fun _ => False) := tg_metI (by decide) (Nat.le_of_ble_eq_true rfl) (fun X hl0 C hE => vX3_opens l D t0 t1 t2 t_pips t_many t_berths t_goal p1 p2 p3 p4 X hl0 C r hs hE)
def fX0_addThrow (a_shown : Nat → Int32) (a_calm : Nat → Int32) (a_windy : Nat → Int32) (a_turns : Nat → Int32) (a_many : Int32) (a_ever : Int32) (t_berths : Int32) (p2 : Int32) (p3 : Int32) (p4 : Int32) : Option ((Nat → Int32) × (Nat → Int32) × (Nat → Int32) × (Nat → Int32) × Int32 × Int32) := if a_many < 216 then (tg_b1 (fX0_shownAs p2 p3 p4) fun rr2 => tg_ck a_many 216 <| tg_nm (upd a_shown (Int32.toNatClampNeg a_many) rr2) fun gg4 => tg_b1 (fX3_opens t_berths p2 p3 p4 0) fun rr6 => tg_ck a_many 216 <| tg_nm (upd a_calm (Int32.toNatClampNeg a_many) rr6) fun gg8 => tg_b1 (fX3_opens t_berths p2 p3 p4 1) fun rr10 => tg_ck a_many 216 <| tg_nm (upd a_windy (Int32.toNatClampNeg a_many) rr10) fun gg12 => tg_b1 (fX0_alikePairs p2 p3 p4) fun rr14 => tg_b1 (if ¬ rr14 = 1 then (some (0 : Int32)) else (some (1 : Int32))) fun (vv17 : Int32) => tg_ck a_many 216 <| tg_nm (upd a_turns (Int32.toNatClampNeg a_many) (vp_nar .boolean vv17)) fun gg19 => tg_ck a_many 216 <| tg_ck a_many 216 <| tg_nm (a_ever ||| ((gg8 (Int32.toNatClampNeg a_many)) ||| (gg12 (Int32.toNatClampNeg a_many)))) fun vv23 => tg_nm (a_many + 1) fun vv24 => some (gg4, gg8, gg12, gg19, vv24, vv23)) else (some (a_shown, a_calm, a_windy, a_turns, a_many, a_ever))
set_option maxHeartbeats 2000000 in
set_option maxRecDepth 20000 in
theorem vX0_addThrow (l : Launch) (D : tg_D) (b0 b1 b2 b3 b4 t0 t1 t2 : Nat) (a_shown : Nat → Int32) (a_calm : Nat → Int32) (a_windy : Nat → Int32) (a_turns : Nat → Int32) (a_many : Int32) (a_ever : Int32) (t_pips : Nat → Int32) (t_many : Nat → Int32) (t_berths : Int32) (t_goal : Int32) (p2 : Int32) (p3 : Int32) (p4 : Int32) (X : tg_X) (hl0 : tg_l X = l) (C : tg_C X D 5 cX0_addThrow RX0 3 66 0 0) (V : tg_V X) (q_a_shown : Nat → Int32) (q_a_calm : Nat → Int32) (q_a_windy : Nat → Int32) (q_a_turns : Nat → Int32) (q_a_many : Int32) (q_a_ever : Int32) (hs : fX0_addThrow a_shown a_calm a_windy a_turns a_many a_ever t_berths p2 p3 p4 = some (q_a_shown, q_a_calm, q_a_windy, q_a_turns, q_a_many, q_a_ever)) (hE : tg_Ev X D 0 0 cX0_addThrow (tw_AT D b0 b1 b2 b3 b4 t0 t1 t2 q_a_shown q_a_calm q_a_windy q_a_turns q_a_many q_a_ever t_pips t_many t_berths t_goal)) : tg_G X D 5 0 0 (tw_AT D b0 b1 b2 b3 b4 t0 t1 t2 a_shown a_calm a_windy a_turns a_many a_ever t_pips t_many t_berths t_goal) [(0, .ref b0), (1, .ref t0), (2, .int p2), (3, .int p3), (4, .int p4)] 0 [] := by
  unfold fX0_addThrow at hs
  refine tg_aload_n C dX0_addThrow_0 rfl 0 rfl ?_
  refine tg_get (v := .int a_many) C cfX0 0 rfl 4 (by decide) wm_167 rfl dX0_addThrow_1 ?_
  refine tg_sipush (v := 216) C dX0_addThrow_4 (by decide) ?_
  refine tg_icmp_lt (tgt := 11) C dX0_addThrow_7 (by decide) (fun cc1 => ?_) (fun cc1 => ?_)
  · have hs := tg_t cc1 hs
    refine tg_aload_n C dX0_addThrow_11 rfl 0 rfl ?_
    refine tg_get (v := .ref b1) C cfX0 0 rfl 0 (by decide) wm_163 rfl dX0_addThrow_12 ?_
    refine tg_aload_n C dX0_addThrow_15 rfl 0 rfl ?_
    refine tg_get (v := .int a_many) C cfX0 0 rfl 4 (by decide) wm_167 rfl dX0_addThrow_16 ?_
    refine tg_iload_n C dX0_addThrow_19 rfl 2 rfl ?_
    refine tg_iload_n C dX0_addThrow_20 rfl 3 rfl ?_
    refine tg_iload C dX0_addThrow_21 4 rfl ?_
    obtain ⟨rr2, ee3, hs⟩ := tg_b1_e hs
    refine tg_pS (As := [.int p2, .int p3, .int p4]) (rest := [.int a_many, .ref b1]) C hl0 (kX0_shownAs l D p2 p3 p4 rr2 ee3) wm_222 meX0_shownAs (by decide) rfl rfl (Nat.le_of_ble_eq_true rfl) dX0_addThrow_23 ?_
    obtain ⟨hh5, hs⟩ := tg_ck_e hs
    obtain ⟨gg4, egg4, hs⟩ := tg_nm_e hs
    refine tg_iast (ws' := (tw_AT D b0 b1 b2 b3 b4 t0 t1 t2 gg4 a_calm a_windy a_turns a_many a_ever t_pips t_many t_berths t_goal)) C V 1 0 rfl rfl hh5 egg4 rfl dX0_addThrow_26 ?_
    refine tg_aload_n C dX0_addThrow_27 rfl 0 rfl ?_
    refine tg_get (v := .ref b2) C cfX0 0 rfl 1 (by decide) wm_164 rfl dX0_addThrow_28 ?_
    refine tg_aload_n C dX0_addThrow_31 rfl 0 rfl ?_
    refine tg_get (v := .int a_many) C cfX0 0 rfl 4 (by decide) wm_167 rfl dX0_addThrow_32 ?_
    refine tg_aload_n C dX0_addThrow_35 rfl 1 rfl ?_
    refine tg_iload_n C dX0_addThrow_36 rfl 2 rfl ?_
    refine tg_iload_n C dX0_addThrow_37 rfl 3 rfl ?_
    refine tg_iload C dX0_addThrow_38 4 rfl ?_
    refine tg_iconst (v := 0) C dX0_addThrow_40 (by decide) ?_
    obtain ⟨rr6, ee7, hs⟩ := tg_b1_e hs
    refine tg_pV (As := [.int p2, .int p3, .int p4, .int 0]) (rest := [.int a_many, .ref b2]) C hl0 (kX3_opens l D t0 t1 t2 t_pips t_many t_berths t_goal p2 p3 p4 0 rr6 ee7) wm_225 meX3_opens (by decide) [5, 6, 7] rfl (by decide) rfl rfl rfl rfl (Nat.le_of_ble_eq_true rfl) dX0_addThrow_41 ?_
    obtain ⟨hh9, hs⟩ := tg_ck_e hs
    obtain ⟨gg8, egg8, hs⟩ := tg_nm_e hs
    refine tg_iast (ws' := (tw_AT D b0 b1 b2 b3 b4 t0 t1 t2 gg4 gg8 a_windy a_turns a_many a_ever t_pips t_many t_berths t_goal)) C V 2 0 rfl rfl hh9 egg8 rfl dX0_addThrow_44 ?_
    refine tg_aload_n C dX0_addThrow_45 rfl 0 rfl ?_
    refine tg_get (v := .ref b3) C cfX0 0 rfl 2 (by decide) wm_165 rfl dX0_addThrow_46 ?_
    refine tg_aload_n C dX0_addThrow_49 rfl 0 rfl ?_
    refine tg_get (v := .int a_many) C cfX0 0 rfl 4 (by decide) wm_167 rfl dX0_addThrow_50 ?_
    refine tg_aload_n C dX0_addThrow_53 rfl 1 rfl ?_
    refine tg_iload_n C dX0_addThrow_54 rfl 2 rfl ?_
    refine tg_iload_n C dX0_addThrow_55 rfl 3 rfl ?_
    refine tg_iload C dX0_addThrow_56 4 rfl ?_
    refine tg_iconst (v := 1) C dX0_addThrow_58 (by decide) ?_
    obtain ⟨rr10, ee11, hs⟩ := tg_b1_e hs
    refine tg_pV (As := [.int p2, .int p3, .int p4, .int 1]) (rest := [.int a_many, .ref b3]) C hl0 (kX3_opens l D t0 t1 t2 t_pips t_many t_berths t_goal p2 p3 p4 1 rr10 ee11) wm_225 meX3_opens (by decide) [5, 6, 7] rfl (by decide) rfl rfl rfl rfl (Nat.le_of_ble_eq_true rfl) dX0_addThrow_59 ?_
    obtain ⟨hh13, hs⟩ := tg_ck_e hs
    obtain ⟨gg12, egg12, hs⟩ := tg_nm_e hs
    refine tg_iast (ws' := (tw_AT D b0 b1 b2 b3 b4 t0 t1 t2 gg4 gg8 gg12 a_turns a_many a_ever t_pips t_many t_berths t_goal)) C V 3 0 rfl rfl hh13 egg12 rfl dX0_addThrow_62 ?_
    refine tg_aload_n C dX0_addThrow_63 rfl 0 rfl ?_
    refine tg_get (v := .ref b4) C cfX0 0 rfl 3 (by decide) wm_166 rfl dX0_addThrow_64 ?_
    refine tg_aload_n C dX0_addThrow_67 rfl 0 rfl ?_
    refine tg_get (v := .int a_many) C cfX0 0 rfl 4 (by decide) wm_167 rfl dX0_addThrow_68 ?_
    refine tg_iload_n C dX0_addThrow_71 rfl 2 rfl ?_
    refine tg_iload_n C dX0_addThrow_72 rfl 3 rfl ?_
    refine tg_iload C dX0_addThrow_73 4 rfl ?_
    obtain ⟨rr14, ee15, hs⟩ := tg_b1_e hs
    refine tg_pS (As := [.int p2, .int p3, .int p4]) (rest := [.int a_many, .ref b4]) C hl0 (kX0_alikePairs l D p2 p3 p4 rr14 ee15) wm_236 meX0_alikePairs (by decide) rfl rfl (Nat.le_of_ble_eq_true rfl) dX0_addThrow_75 ?_
    refine tg_iconst (v := 1) C dX0_addThrow_78 (by decide) ?_
    obtain ⟨vv17, ee25, hs⟩ := tg_b1_e hs
    have JJ18 : tg_G X D 5 0 0 (tw_AT D b0 b1 b2 b3 b4 t0 t1 t2 gg4 gg8 gg12 a_turns a_many a_ever t_pips t_many t_berths t_goal) [(0, .ref b0), (1, .ref t0), (2, .int p2), (3, .int p3), (4, .int p4)] 87 [.int vv17, .int a_many, .ref b4] := by
      obtain ⟨hh20, hs⟩ := tg_ck_e hs
      obtain ⟨gg19, egg19, hs⟩ := tg_nm_e hs
      refine tg_zast (ws' := (tw_AT D b0 b1 b2 b3 b4 t0 t1 t2 gg4 gg8 gg12 gg19 a_many a_ever t_pips t_many t_berths t_goal)) C V 4 1 rfl rfl hh20 egg19 rfl dX0_addThrow_87 ?_
      refine tg_aload_n C dX0_addThrow_88 rfl 0 rfl ?_
      refine tg_dup C dX0_addThrow_89 rfl ?_
      refine tg_get (v := .int a_ever) C cfX0 0 rfl 5 (by decide) wm_169 rfl dX0_addThrow_90 ?_
      refine tg_aload_n C dX0_addThrow_93 rfl 0 rfl ?_
      refine tg_get (v := .ref b2) C cfX0 0 rfl 1 (by decide) wm_164 rfl dX0_addThrow_94 ?_
      refine tg_aload_n C dX0_addThrow_97 rfl 0 rfl ?_
      refine tg_get (v := .int a_many) C cfX0 0 rfl 4 (by decide) wm_167 rfl dX0_addThrow_98 ?_
      obtain ⟨hh21, hs⟩ := tg_ck_e hs
      refine tg_iald C 2 0 rfl rfl hh21 dX0_addThrow_101 ?_
      refine tg_aload_n C dX0_addThrow_102 rfl 0 rfl ?_
      refine tg_get (v := .ref b3) C cfX0 0 rfl 2 (by decide) wm_165 rfl dX0_addThrow_103 ?_
      refine tg_aload_n C dX0_addThrow_106 rfl 0 rfl ?_
      refine tg_get (v := .int a_many) C cfX0 0 rfl 4 (by decide) wm_167 rfl dX0_addThrow_107 ?_
      obtain ⟨hh22, hs⟩ := tg_ck_e hs
      refine tg_iald C 3 0 rfl rfl hh22 dX0_addThrow_110 ?_
      refine tg_ior C dX0_addThrow_111 ?_
      refine tg_ior C dX0_addThrow_112 ?_
      obtain ⟨vv23, evv23, hs⟩ := tg_nm_e hs
      refine tg_topi evv23 ?_
      refine tg_put (ws' := (tw_AT D b0 b1 b2 b3 b4 t0 t1 t2 gg4 gg8 gg12 gg19 a_many vv23 t_pips t_many t_berths t_goal)) C V cfX0 0 rfl 5 (by decide) wm_169 rfl rfl rfl (Nat.le_of_ble_eq_true rfl) rfl dX0_addThrow_113 ?_
      refine tg_aload_n C dX0_addThrow_116 rfl 0 rfl ?_
      refine tg_dup C dX0_addThrow_117 rfl ?_
      refine tg_get (v := .int a_many) C cfX0 0 rfl 4 (by decide) wm_167 rfl dX0_addThrow_118 ?_
      refine tg_iconst (v := 1) C dX0_addThrow_121 (by decide) ?_
      refine tg_iadd C dX0_addThrow_122 ?_
      obtain ⟨vv24, evv24, hs⟩ := tg_nm_e hs
      refine tg_topi evv24 ?_
      refine tg_put (ws' := (tw_AT D b0 b1 b2 b3 b4 t0 t1 t2 gg4 gg8 gg12 gg19 vv24 vv23 t_pips t_many t_berths t_goal)) C V cfX0 0 rfl 4 (by decide) wm_167 rfl rfl rfl (Nat.le_of_ble_eq_true rfl) rfl dX0_addThrow_123 ?_
      obtain ⟨rfl, rfl, rfl, rfl, rfl, rfl⟩ := tg_i6 hs
      exact tg_vret hE dX0_addThrow_126
    have hs := ee25
    clear ee25
    refine tg_icmp_ne (tgt := 86) C dX0_addThrow_79 (by decide) (fun cc16 => ?_) (fun cc16 => ?_)
    · have hs := tg_t cc16 hs
      refine tg_iconst (v := 0) C dX0_addThrow_86 (by decide) ?_
      obtain rfl := Option.some.inj hs
      exact JJ18
    · have hs := tg_nf cc16 hs
      refine tg_iconst (v := 1) C dX0_addThrow_82 (by decide) ?_
      refine tg_goto (tgt := 87) C dX0_addThrow_83 (by decide) ?_
      obtain rfl := Option.some.inj hs
      exact JJ18
  · have hs := tg_f cc1 hs
    obtain ⟨rfl, rfl, rfl, rfl, rfl, rfl⟩ := tg_i6 hs
    exact tg_vret hE dX0_addThrow_10
set_option maxHeartbeats 2000000 in
set_option maxRecDepth 20000 in
theorem kX0_addThrow (l : Launch) (D : tg_D) (b0 b1 b2 b3 b4 t0 t1 t2 : Nat) (a_shown : Nat → Int32) (a_calm : Nat → Int32) (a_windy : Nat → Int32) (a_turns : Nat → Int32) (a_many : Int32) (a_ever : Int32) (t_pips : Nat → Int32) (t_many : Nat → Int32) (t_berths : Int32) (t_goal : Int32) (p2 : Int32) (p3 : Int32) (p4 : Int32) (q_a_shown : Nat → Int32) (q_a_calm : Nat → Int32) (q_a_windy : Nat → Int32) (q_a_turns : Nat → Int32) (q_a_many : Int32) (q_a_ever : Int32) (hs : fX0_addThrow a_shown a_calm a_windy a_turns a_many a_ever t_berths p2 p3 p4 = some (q_a_shown, q_a_calm, q_a_windy, q_a_turns, q_a_many, q_a_ever)) : Met l yX0_addThrow [Cond.code yX0_addThrow cX0_addThrow 5 none] (tg_rm 3 66) (tg_Pre D (tw_AT D b0 b1 b2 b3 b4 t0 t1 t2 a_shown a_calm a_windy a_turns a_many a_ever t_pips t_many t_berths t_goal) [.ref b0, .ref t0, .int p2, .int p3, .int p4]) (tg_Qe none D (tw_AT D b0 b1 b2 b3 b4 t0 t1 t2 q_a_shown q_a_calm q_a_windy q_a_turns q_a_many q_a_ever t_pips t_many t_berths t_goal) (tg_Ad (tw_AT D b0 b1 b2 b3 b4 t0 t1 t2 a_shown a_calm a_windy a_turns a_many a_ever t_pips t_many t_berths t_goal))) 0 0 (tg_Ad (tw_AT D b0 b1 b2 b3 b4 t0 t1 t2 a_shown a_calm a_windy a_turns a_many a_ever t_pips t_many t_berths t_goal)) := tg_metEv (by decide) (Nat.le_of_ble_eq_true rfl) (fun X hl0 C V hE => vX0_addThrow l D b0 b1 b2 b3 b4 t0 t1 t2 a_shown a_calm a_windy a_turns a_many a_ever t_pips t_many t_berths t_goal p2 p3 p4 X hl0 C V q_a_shown q_a_calm q_a_windy q_a_turns q_a_many q_a_ever hs hE)
def fX0_makeOf_L37 (t_pips : Nat → Int32) (t_many : Nat → Int32) (t_berths : Int32) (n2 : Int32) (n3 : Int32) : Nat → (Nat → Int32) → (Nat → Int32) → (Nat → Int32) → (Nat → Int32) → Int32 → Int32 → Int32 → Option ((Nat → Int32) × (Nat → Int32) × (Nat → Int32) × (Nat → Int32) × Int32 × Int32 × Int32)
  | 0, _, _, _, _, _, _, _ => none
  | fuel + 1, a_shown, a_calm, a_windy, a_turns, a_many, a_ever, n4 => if (t_many 2) ≤ n4 then (some (a_shown, a_calm, a_windy, a_turns, a_many, a_ever, n4)) else (tg_b1 (fX3_pip t_pips 0 n2) fun rr4 => tg_b1 (fX3_pip t_pips 1 n3) fun rr6 => tg_b1 (fX3_pip t_pips 2 n4) fun rr8 => tg_b6 (fX0_addThrow a_shown a_calm a_windy a_turns a_many a_ever t_berths rr4 rr6 rr8) fun gg10 gg11 gg12 gg13 vv14 vv15 => tg_nm (n4 + 1) fun vv17 => fX0_makeOf_L37 t_pips t_many t_berths n2 n3 fuel gg10 gg11 gg12 gg13 vv14 vv15 vv17)
def fX0_makeOf_L24 (t_pips : Nat → Int32) (t_many : Nat → Int32) (t_berths : Int32) (n2 : Int32) : Nat → (Nat → Int32) → (Nat → Int32) → (Nat → Int32) → (Nat → Int32) → Int32 → Int32 → Int32 → Option ((Nat → Int32) × (Nat → Int32) × (Nat → Int32) × (Nat → Int32) × Int32 × Int32 × Int32)
  | 0, _, _, _, _, _, _, _ => none
  | fuel + 1, a_shown, a_calm, a_windy, a_turns, a_many, a_ever, n3 => if (t_many 1) ≤ n3 then (some (a_shown, a_calm, a_windy, a_turns, a_many, a_ever, n3)) else (tg_b7 (fX0_makeOf_L37 t_pips t_many t_berths n2 n3 400 a_shown a_calm a_windy a_turns a_many a_ever 0) fun vv18 vv19 vv20 vv21 vv22 vv23 vv24 => tg_nm (n3 + 1) fun vv26 => fX0_makeOf_L24 t_pips t_many t_berths n2 fuel vv18 vv19 vv20 vv21 vv22 vv23 vv26)
def fX0_makeOf_L12 (t_pips : Nat → Int32) (t_many : Nat → Int32) (t_berths : Int32) : Nat → (Nat → Int32) → (Nat → Int32) → (Nat → Int32) → (Nat → Int32) → Int32 → Int32 → Int32 → Option ((Nat → Int32) × (Nat → Int32) × (Nat → Int32) × (Nat → Int32) × Int32 × Int32 × Int32)
  | 0, _, _, _, _, _, _, _ => none
  | fuel + 1, a_shown, a_calm, a_windy, a_turns, a_many, a_ever, n2 => if (t_many 0) ≤ n2 then (some (a_shown, a_calm, a_windy, a_turns, a_many, a_ever, n2)) else (tg_b7 (fX0_makeOf_L24 t_pips t_many t_berths n2 400 a_shown a_calm a_windy a_turns a_many a_ever 0) fun vv27 vv28 vv29 vv30 vv31 vv32 vv33 => tg_nm (n2 + 1) fun vv35 => fX0_makeOf_L12 t_pips t_many t_berths fuel vv27 vv28 vv29 vv30 vv31 vv32 vv35)
def fX0_makeOf (a_shown : Nat → Int32) (a_calm : Nat → Int32) (a_windy : Nat → Int32) (a_turns : Nat → Int32) (t_pips : Nat → Int32) (t_many : Nat → Int32) (t_berths : Int32) : Option ((Nat → Int32) × (Nat → Int32) × (Nat → Int32) × (Nat → Int32) × Int32 × Int32) := tg_b7 (fX0_makeOf_L12 t_pips t_many t_berths 400 a_shown a_calm a_windy a_turns 0 0 0) fun vv36 vv37 vv38 vv39 vv40 vv41 vv42 => some (vv36, vv37, vv38, vv39, vv40, vv41)
set_option maxHeartbeats 2000000 in
set_option maxRecDepth 20000 in
theorem vX0_makeOf_L37 (l : Launch) (D : tg_D) (b0 b1 b2 b3 b4 t0 t1 t2 : Nat) (t_pips : Nat → Int32) (t_many : Nat → Int32) (t_berths : Int32) (t_goal : Int32) (n2 : Int32) (n3 : Int32) (X : tg_X) (hl0 : tg_l X = l) (C : tg_C X D 5 cX0_makeOf RX0 4 90 0 0) (V : tg_V X) (o_a_shown : Nat → Int32) (o_a_calm : Nat → Int32) (o_a_windy : Nat → Int32) (o_a_turns : Nat → Int32) (o_a_many : Int32) (o_a_ever : Int32) (o_n4 : Int32) : ∀ (fuel : Nat) (a_shown : Nat → Int32) (a_calm : Nat → Int32) (a_windy : Nat → Int32) (a_turns : Nat → Int32) (a_many : Int32) (a_ever : Int32) (n4 : Int32), fX0_makeOf_L37 t_pips t_many t_berths n2 n3 fuel a_shown a_calm a_windy a_turns a_many a_ever n4 = some (o_a_shown, o_a_calm, o_a_windy, o_a_turns, o_a_many, o_a_ever, o_n4) → tg_G X D 5 0 0 (tw_AT D b0 b1 b2 b3 b4 t0 t1 t2 o_a_shown o_a_calm o_a_windy o_a_turns o_a_many o_a_ever t_pips t_many t_berths t_goal) [(0, .ref b0), (1, .ref t0), (2, .int n2), (3, .int n3), (4, .int o_n4)] 78 [] → tg_G X D 5 0 0 (tw_AT D b0 b1 b2 b3 b4 t0 t1 t2 a_shown a_calm a_windy a_turns a_many a_ever t_pips t_many t_berths t_goal) [(0, .ref b0), (1, .ref t0), (2, .int n2), (3, .int n3), (4, .int n4)] 37 [] := by
  intro fuel
  induction fuel with
  | zero =>
    intro a_shown a_calm a_windy a_turns a_many a_ever n4 hs _
    rw [fX0_makeOf_L37] at hs
    cases hs
  | succ fuel ih =>
    intro a_shown a_calm a_windy a_turns a_many a_ever n4 hs J
    rw [fX0_makeOf_L37] at hs
    refine tg_iload C dX0_makeOf_37 4 rfl ?_
    refine tg_aload_n C dX0_makeOf_39 rfl 1 rfl ?_
    refine tg_get (v := .ref t2) C cfX3 5 rfl 1 (by decide) wm_92 rfl dX0_makeOf_40 ?_
    refine tg_iconst (v := 2) C dX0_makeOf_43 (by decide) ?_
    refine tg_iald C 7 0 rfl rfl (tg_vin (by decide)) dX0_makeOf_44 ?_
    refine tg_topi (y := t_many 2) rfl ?_
    refine tg_icmp_ge (tgt := 78) C dX0_makeOf_45 (by decide) (fun cc3 => ?_) (fun cc3 => ?_)
    · have hs := tg_t cc3 hs
      obtain ⟨rfl, rfl, rfl, rfl, rfl, rfl, rfl⟩ := tg_i7 hs
      exact J
    · have hs := tg_f cc3 hs
      refine tg_aload_n C dX0_makeOf_48 rfl 0 rfl ?_
      refine tg_aload_n C dX0_makeOf_49 rfl 1 rfl ?_
      refine tg_aload_n C dX0_makeOf_50 rfl 1 rfl ?_
      refine tg_iconst (v := 0) C dX0_makeOf_51 (by decide) ?_
      refine tg_iload_n C dX0_makeOf_52 rfl 2 rfl ?_
      obtain ⟨rr4, ee5, hs⟩ := tg_b1_e hs
      refine tg_pV (As := [.int 0, .int n2]) (rest := [.ref t0, .ref b0]) C hl0 (kX3_pip l D t0 t1 t2 t_pips t_many t_berths t_goal 0 n2 rr4 ee5) wm_214 meX3_pip (by decide) [5, 6, 7] rfl (by decide) rfl rfl rfl rfl (Nat.le_of_ble_eq_true rfl) dX0_makeOf_53 ?_
      refine tg_aload_n C dX0_makeOf_56 rfl 1 rfl ?_
      refine tg_iconst (v := 1) C dX0_makeOf_57 (by decide) ?_
      refine tg_iload_n C dX0_makeOf_58 rfl 3 rfl ?_
      obtain ⟨rr6, ee7, hs⟩ := tg_b1_e hs
      refine tg_pV (As := [.int 1, .int n3]) (rest := [.int rr4, .ref t0, .ref b0]) C hl0 (kX3_pip l D t0 t1 t2 t_pips t_many t_berths t_goal 1 n3 rr6 ee7) wm_214 meX3_pip (by decide) [5, 6, 7] rfl (by decide) rfl rfl rfl rfl (Nat.le_of_ble_eq_true rfl) dX0_makeOf_59 ?_
      refine tg_aload_n C dX0_makeOf_62 rfl 1 rfl ?_
      refine tg_iconst (v := 2) C dX0_makeOf_63 (by decide) ?_
      refine tg_iload C dX0_makeOf_64 4 rfl ?_
      obtain ⟨rr8, ee9, hs⟩ := tg_b1_e hs
      refine tg_pV (As := [.int 2, .int n4]) (rest := [.int rr6, .int rr4, .ref t0, .ref b0]) C hl0 (kX3_pip l D t0 t1 t2 t_pips t_many t_berths t_goal 2 n4 rr8 ee9) wm_214 meX3_pip (by decide) [5, 6, 7] rfl (by decide) rfl rfl rfl rfl (Nat.le_of_ble_eq_true rfl) dX0_makeOf_66 ?_
      obtain ⟨gg10, gg11, gg12, gg13, vv14, vv15, ee16, hs⟩ := tg_b6_e hs
      refine tg_eVs (ws' := (tw_AT D b0 b1 b2 b3 b4 t0 t1 t2 gg10 gg11 gg12 gg13 vv14 vv15 t_pips t_many t_berths t_goal)) (As := [.ref t0, .int rr4, .int rr6, .int rr8]) (rest := []) C V hl0 (kX0_addThrow l D b0 b1 b2 b3 b4 t0 t1 t2 a_shown a_calm a_windy a_turns a_many a_ever t_pips t_many t_berths t_goal rr4 rr6 rr8 gg10 gg11 gg12 gg13 vv14 vv15 ee16) wm_218 meX0_addThrow (by decide) rfl rfl rfl rfl (Nat.le_of_ble_eq_true rfl) rfl dX0_makeOf_69 ?_
      obtain ⟨vv17, evv17, hs⟩ := tg_nm_e hs
      refine tg_iinc (v := vv17) (lv' := [(4, .int vv17), (0, .ref b0), (1, .ref t0), (2, .int n2), (3, .int n3)]) C dX0_makeOf_72 4 rfl (by rw [evv17]; rfl) (by decide) rfl ?_
      refine tg_goto (tgt := 37) C dX0_makeOf_75 (by decide) ?_
      refine tg_lsub [1, 2, 3, 4, 0] rfl ?_
      exact ih gg10 gg11 gg12 gg13 vv14 vv15 vv17 hs J
set_option maxHeartbeats 2000000 in
set_option maxRecDepth 20000 in
theorem vX0_makeOf_L24 (l : Launch) (D : tg_D) (b0 b1 b2 b3 b4 t0 t1 t2 : Nat) (t_pips : Nat → Int32) (t_many : Nat → Int32) (t_berths : Int32) (t_goal : Int32) (n2 : Int32) (X : tg_X) (hl0 : tg_l X = l) (C : tg_C X D 5 cX0_makeOf RX0 4 90 0 0) (V : tg_V X) (o_a_shown : Nat → Int32) (o_a_calm : Nat → Int32) (o_a_windy : Nat → Int32) (o_a_turns : Nat → Int32) (o_a_many : Int32) (o_a_ever : Int32) (o_n3 : Int32) : ∀ (fuel : Nat) (a_shown : Nat → Int32) (a_calm : Nat → Int32) (a_windy : Nat → Int32) (a_turns : Nat → Int32) (a_many : Int32) (a_ever : Int32) (n3 : Int32), fX0_makeOf_L24 t_pips t_many t_berths n2 fuel a_shown a_calm a_windy a_turns a_many a_ever n3 = some (o_a_shown, o_a_calm, o_a_windy, o_a_turns, o_a_many, o_a_ever, o_n3) → tg_G X D 5 0 0 (tw_AT D b0 b1 b2 b3 b4 t0 t1 t2 o_a_shown o_a_calm o_a_windy o_a_turns o_a_many o_a_ever t_pips t_many t_berths t_goal) [(0, .ref b0), (1, .ref t0), (2, .int n2), (3, .int o_n3)] 84 [] → tg_G X D 5 0 0 (tw_AT D b0 b1 b2 b3 b4 t0 t1 t2 a_shown a_calm a_windy a_turns a_many a_ever t_pips t_many t_berths t_goal) [(0, .ref b0), (1, .ref t0), (2, .int n2), (3, .int n3)] 24 [] := by
  intro fuel
  induction fuel with
  | zero =>
    intro a_shown a_calm a_windy a_turns a_many a_ever n3 hs _
    rw [fX0_makeOf_L24] at hs
    cases hs
  | succ fuel ih =>
    intro a_shown a_calm a_windy a_turns a_many a_ever n3 hs J
    rw [fX0_makeOf_L24] at hs
    refine tg_iload_n C dX0_makeOf_24 rfl 3 rfl ?_
    refine tg_aload_n C dX0_makeOf_25 rfl 1 rfl ?_
    refine tg_get (v := .ref t2) C cfX3 5 rfl 1 (by decide) wm_92 rfl dX0_makeOf_26 ?_
    refine tg_iconst (v := 1) C dX0_makeOf_29 (by decide) ?_
    refine tg_iald C 7 0 rfl rfl (tg_vin (by decide)) dX0_makeOf_30 ?_
    refine tg_topi (y := t_many 1) rfl ?_
    refine tg_icmp_ge (tgt := 84) C dX0_makeOf_31 (by decide) (fun cc2 => ?_) (fun cc2 => ?_)
    · have hs := tg_t cc2 hs
      obtain ⟨rfl, rfl, rfl, rfl, rfl, rfl, rfl⟩ := tg_i7 hs
      exact J
    · have hs := tg_f cc2 hs
      refine tg_iconst (v := 0) C dX0_makeOf_34 (by decide) ?_
      refine tg_istore (lv' := [(4, .int 0), (0, .ref b0), (1, .ref t0), (2, .int n2), (3, .int n3)]) C dX0_makeOf_35 (by decide) rfl ?_
      refine tg_lsub [1, 2, 3, 4, 0] rfl ?_
      obtain ⟨vv18, vv19, vv20, vv21, vv22, vv23, vv24, ee25, hs⟩ := tg_b7_e hs
      refine vX0_makeOf_L37 l D b0 b1 b2 b3 b4 t0 t1 t2 t_pips t_many t_berths t_goal n2 n3 X hl0 C V vv18 vv19 vv20 vv21 vv22 vv23 vv24 400 a_shown a_calm a_windy a_turns a_many a_ever 0 ee25 ?_
      obtain ⟨vv26, evv26, hs⟩ := tg_nm_e hs
      refine tg_iinc (v := vv26) (lv' := [(3, .int vv26), (0, .ref b0), (1, .ref t0), (2, .int n2), (4, .int vv24)]) C dX0_makeOf_78 3 rfl (by rw [evv26]; rfl) (by decide) rfl ?_
      refine tg_goto (tgt := 24) C dX0_makeOf_81 (by decide) ?_
      refine tg_lsub [1, 2, 3, 0] rfl ?_
      exact ih vv18 vv19 vv20 vv21 vv22 vv23 vv26 hs J
set_option maxHeartbeats 2000000 in
set_option maxRecDepth 20000 in
theorem vX0_makeOf_L12 (l : Launch) (D : tg_D) (b0 b1 b2 b3 b4 t0 t1 t2 : Nat) (t_pips : Nat → Int32) (t_many : Nat → Int32) (t_berths : Int32) (t_goal : Int32) (X : tg_X) (hl0 : tg_l X = l) (C : tg_C X D 5 cX0_makeOf RX0 4 90 0 0) (V : tg_V X) (o_a_shown : Nat → Int32) (o_a_calm : Nat → Int32) (o_a_windy : Nat → Int32) (o_a_turns : Nat → Int32) (o_a_many : Int32) (o_a_ever : Int32) (o_n2 : Int32) : ∀ (fuel : Nat) (a_shown : Nat → Int32) (a_calm : Nat → Int32) (a_windy : Nat → Int32) (a_turns : Nat → Int32) (a_many : Int32) (a_ever : Int32) (n2 : Int32), fX0_makeOf_L12 t_pips t_many t_berths fuel a_shown a_calm a_windy a_turns a_many a_ever n2 = some (o_a_shown, o_a_calm, o_a_windy, o_a_turns, o_a_many, o_a_ever, o_n2) → tg_G X D 5 0 0 (tw_AT D b0 b1 b2 b3 b4 t0 t1 t2 o_a_shown o_a_calm o_a_windy o_a_turns o_a_many o_a_ever t_pips t_many t_berths t_goal) [(0, .ref b0), (1, .ref t0), (2, .int o_n2)] 90 [] → tg_G X D 5 0 0 (tw_AT D b0 b1 b2 b3 b4 t0 t1 t2 a_shown a_calm a_windy a_turns a_many a_ever t_pips t_many t_berths t_goal) [(0, .ref b0), (1, .ref t0), (2, .int n2)] 12 [] := by
  intro fuel
  induction fuel with
  | zero =>
    intro a_shown a_calm a_windy a_turns a_many a_ever n2 hs _
    rw [fX0_makeOf_L12] at hs
    cases hs
  | succ fuel ih =>
    intro a_shown a_calm a_windy a_turns a_many a_ever n2 hs J
    rw [fX0_makeOf_L12] at hs
    refine tg_iload_n C dX0_makeOf_12 rfl 2 rfl ?_
    refine tg_aload_n C dX0_makeOf_13 rfl 1 rfl ?_
    refine tg_get (v := .ref t2) C cfX3 5 rfl 1 (by decide) wm_92 rfl dX0_makeOf_14 ?_
    refine tg_iconst (v := 0) C dX0_makeOf_17 (by decide) ?_
    refine tg_iald C 7 0 rfl rfl (tg_vin (by decide)) dX0_makeOf_18 ?_
    refine tg_topi (y := t_many 0) rfl ?_
    refine tg_icmp_ge (tgt := 90) C dX0_makeOf_19 (by decide) (fun cc1 => ?_) (fun cc1 => ?_)
    · have hs := tg_t cc1 hs
      obtain ⟨rfl, rfl, rfl, rfl, rfl, rfl, rfl⟩ := tg_i7 hs
      exact J
    · have hs := tg_f cc1 hs
      refine tg_iconst (v := 0) C dX0_makeOf_22 (by decide) ?_
      refine tg_istore_n (lv' := [(3, .int 0), (0, .ref b0), (1, .ref t0), (2, .int n2)]) C dX0_makeOf_23 rfl (by decide) rfl ?_
      refine tg_lsub [1, 2, 3, 0] rfl ?_
      obtain ⟨vv27, vv28, vv29, vv30, vv31, vv32, vv33, ee34, hs⟩ := tg_b7_e hs
      refine vX0_makeOf_L24 l D b0 b1 b2 b3 b4 t0 t1 t2 t_pips t_many t_berths t_goal n2 X hl0 C V vv27 vv28 vv29 vv30 vv31 vv32 vv33 400 a_shown a_calm a_windy a_turns a_many a_ever 0 ee34 ?_
      obtain ⟨vv35, evv35, hs⟩ := tg_nm_e hs
      refine tg_iinc (v := vv35) (lv' := [(2, .int vv35), (0, .ref b0), (1, .ref t0), (3, .int vv33)]) C dX0_makeOf_84 2 rfl (by rw [evv35]; rfl) (by decide) rfl ?_
      refine tg_goto (tgt := 12) C dX0_makeOf_87 (by decide) ?_
      refine tg_lsub [1, 2, 0] rfl ?_
      exact ih vv27 vv28 vv29 vv30 vv31 vv32 vv35 hs J
set_option maxHeartbeats 2000000 in
set_option maxRecDepth 20000 in
theorem vX0_makeOf (l : Launch) (D : tg_D) (b0 b1 b2 b3 b4 t0 t1 t2 : Nat) (a_shown : Nat → Int32) (a_calm : Nat → Int32) (a_windy : Nat → Int32) (a_turns : Nat → Int32) (a_many : Int32) (a_ever : Int32) (t_pips : Nat → Int32) (t_many : Nat → Int32) (t_berths : Int32) (t_goal : Int32) (X : tg_X) (hl0 : tg_l X = l) (C : tg_C X D 5 cX0_makeOf RX0 4 90 0 0) (V : tg_V X) (q_a_shown : Nat → Int32) (q_a_calm : Nat → Int32) (q_a_windy : Nat → Int32) (q_a_turns : Nat → Int32) (q_a_many : Int32) (q_a_ever : Int32) (hs : fX0_makeOf a_shown a_calm a_windy a_turns t_pips t_many t_berths = some (q_a_shown, q_a_calm, q_a_windy, q_a_turns, q_a_many, q_a_ever)) (hE : tg_Ev X D 0 0 cX0_makeOf (tw_AT D b0 b1 b2 b3 b4 t0 t1 t2 q_a_shown q_a_calm q_a_windy q_a_turns q_a_many q_a_ever t_pips t_many t_berths t_goal)) : tg_G X D 5 0 0 (tw_AT D b0 b1 b2 b3 b4 t0 t1 t2 a_shown a_calm a_windy a_turns a_many a_ever t_pips t_many t_berths t_goal) [(0, .ref b0), (1, .ref t0)] 0 [] := by
  unfold fX0_makeOf at hs
  refine tg_aload_n C dX0_makeOf_0 rfl 0 rfl ?_
  refine tg_iconst (v := 0) C dX0_makeOf_1 (by decide) ?_
  refine tg_put (ws' := (tw_AT D b0 b1 b2 b3 b4 t0 t1 t2 a_shown a_calm a_windy a_turns 0 a_ever t_pips t_many t_berths t_goal)) C V cfX0 0 rfl 4 (by decide) wm_167 rfl rfl rfl (Nat.le_of_ble_eq_true rfl) rfl dX0_makeOf_2 ?_
  refine tg_aload_n C dX0_makeOf_5 rfl 0 rfl ?_
  refine tg_iconst (v := 0) C dX0_makeOf_6 (by decide) ?_
  refine tg_put (ws' := (tw_AT D b0 b1 b2 b3 b4 t0 t1 t2 a_shown a_calm a_windy a_turns 0 0 t_pips t_many t_berths t_goal)) C V cfX0 0 rfl 5 (by decide) wm_169 rfl rfl rfl (Nat.le_of_ble_eq_true rfl) rfl dX0_makeOf_7 ?_
  refine tg_iconst (v := 0) C dX0_makeOf_10 (by decide) ?_
  refine tg_istore_n (lv' := [(2, .int 0), (0, .ref b0), (1, .ref t0)]) C dX0_makeOf_11 rfl (by decide) rfl ?_
  refine tg_lsub [1, 2, 0] rfl ?_
  obtain ⟨vv36, vv37, vv38, vv39, vv40, vv41, vv42, ee43, hs⟩ := tg_b7_e hs
  refine vX0_makeOf_L12 l D b0 b1 b2 b3 b4 t0 t1 t2 t_pips t_many t_berths t_goal X hl0 C V vv36 vv37 vv38 vv39 vv40 vv41 vv42 400 a_shown a_calm a_windy a_turns 0 0 0 ee43 ?_
  obtain ⟨rfl, rfl, rfl, rfl, rfl, rfl⟩ := tg_i6 hs
  exact tg_vret hE dX0_makeOf_90
set_option maxHeartbeats 2000000 in
set_option maxRecDepth 20000 in
theorem kX0_makeOf (l : Launch) (D : tg_D) (b0 b1 b2 b3 b4 t0 t1 t2 : Nat) (a_shown : Nat → Int32) (a_calm : Nat → Int32) (a_windy : Nat → Int32) (a_turns : Nat → Int32) (a_many : Int32) (a_ever : Int32) (t_pips : Nat → Int32) (t_many : Nat → Int32) (t_berths : Int32) (t_goal : Int32) (q_a_shown : Nat → Int32) (q_a_calm : Nat → Int32) (q_a_windy : Nat → Int32) (q_a_turns : Nat → Int32) (q_a_many : Int32) (q_a_ever : Int32) (hs : fX0_makeOf a_shown a_calm a_windy a_turns t_pips t_many t_berths = some (q_a_shown, q_a_calm, q_a_windy, q_a_turns, q_a_many, q_a_ever)) : Met l yX0_makeOf [Cond.code yX0_makeOf cX0_makeOf 5 none] (tg_rm 4 90) (tg_Pre D (tw_AT D b0 b1 b2 b3 b4 t0 t1 t2 a_shown a_calm a_windy a_turns a_many a_ever t_pips t_many t_berths t_goal) [.ref b0, .ref t0]) (tg_Qe none D (tw_AT D b0 b1 b2 b3 b4 t0 t1 t2 q_a_shown q_a_calm q_a_windy q_a_turns q_a_many q_a_ever t_pips t_many t_berths t_goal) (tg_Ad (tw_AT D b0 b1 b2 b3 b4 t0 t1 t2 a_shown a_calm a_windy a_turns a_many a_ever t_pips t_many t_berths t_goal))) 0 0 (tg_Ad (tw_AT D b0 b1 b2 b3 b4 t0 t1 t2 a_shown a_calm a_windy a_turns a_many a_ever t_pips t_many t_berths t_goal)) := tg_metEv (by decide) (Nat.le_of_ble_eq_true rfl) (fun X hl0 C V hE => vX0_makeOf l D b0 b1 b2 b3 b4 t0 t1 t2 a_shown a_calm a_windy a_turns a_many a_ever t_pips t_many t_berths t_goal X hl0 C V q_a_shown q_a_calm q_a_windy q_a_turns q_a_many q_a_ever hs hE)
def fX0_opensStill (a_calm : Nat → Int32) (a_windy : Nat → Int32) (p1 : Int32) (p2 : Int32) : Option (Int32) := if ¬ p2 = 0 then (tg_ck p1 216 <| some (a_windy (Int32.toNatClampNeg p1))) else (tg_ck p1 216 <| some (a_calm (Int32.toNatClampNeg p1)))
set_option maxHeartbeats 2000000 in
set_option maxRecDepth 20000 in
theorem vX0_opensStill (l : Launch) (D : tg_D) (b0 b1 b2 b3 b4 : Nat) (a_shown : Nat → Int32) (a_calm : Nat → Int32) (a_windy : Nat → Int32) (a_turns : Nat → Int32) (a_many : Int32) (a_ever : Int32) (p1 : Int32) (p2 : Int32) (X : tg_X) (hl0 : tg_l X = l) (C : tg_C X D 3 cX0_opensStill RX0 0 0 0 0) (r : Int32) (hs : fX0_opensStill a_calm a_windy p1 p2 = some r) (hE : tg_Ei X D 0 0 cX0_opensStill .int r (tw_A D b0 b1 b2 b3 b4 a_shown a_calm a_windy a_turns a_many a_ever)) : tg_G X D 3 0 0 (tw_A D b0 b1 b2 b3 b4 a_shown a_calm a_windy a_turns a_many a_ever) [(0, .ref b0), (1, .int p1), (2, .int p2)] 0 [] := by
  unfold fX0_opensStill at hs
  refine tg_iload_n C dX0_opensStill_0 rfl 2 rfl ?_
  refine tg_if_ne (tgt := 13) C dX0_opensStill_1 (by decide) (fun cc1 => ?_) (fun cc1 => ?_)
  · have hs := tg_t cc1 hs
    refine tg_aload_n C dX0_opensStill_13 rfl 0 rfl ?_
    refine tg_get (v := .ref b3) C cfX0 0 rfl 2 (by decide) wm_165 rfl dX0_opensStill_14 ?_
    refine tg_iload_n C dX0_opensStill_17 rfl 1 rfl ?_
    obtain ⟨hh2, hs⟩ := tg_ck_e hs
    refine tg_iald C 3 0 rfl rfl hh2 dX0_opensStill_18 ?_
    obtain rfl := Option.some.inj hs
    exact tg_iret hE rfl dX0_opensStill_19
  · have hs := tg_nf cc1 hs
    refine tg_aload_n C dX0_opensStill_4 rfl 0 rfl ?_
    refine tg_get (v := .ref b2) C cfX0 0 rfl 1 (by decide) wm_164 rfl dX0_opensStill_5 ?_
    refine tg_iload_n C dX0_opensStill_8 rfl 1 rfl ?_
    obtain ⟨hh3, hs⟩ := tg_ck_e hs
    refine tg_iald C 2 0 rfl rfl hh3 dX0_opensStill_9 ?_
    refine tg_goto (tgt := 19) C dX0_opensStill_10 (by decide) ?_
    obtain rfl := Option.some.inj hs
    exact tg_iret hE rfl dX0_opensStill_19
set_option maxHeartbeats 2000000 in
set_option maxRecDepth 20000 in
theorem kX0_opensStill (l : Launch) (D : tg_D) (b0 b1 b2 b3 b4 : Nat) (a_shown : Nat → Int32) (a_calm : Nat → Int32) (a_windy : Nat → Int32) (a_turns : Nat → Int32) (a_many : Int32) (a_ever : Int32) (p1 : Int32) (p2 : Int32) (r : Int32) (hs : fX0_opensStill a_calm a_windy p1 p2 = some r) : Met l yX0_opensStill [Cond.code yX0_opensStill cX0_opensStill 3 (some .int)] (tg_rm 0 0) (tg_Pre D (tw_A D b0 b1 b2 b3 b4 a_shown a_calm a_windy a_turns a_many a_ever) [.ref b0, .int p1, .int p2]) (vp_Si (fun r' => r' = r)) 0 0 (fun _ => False) := tg_metI (by decide) (Nat.le_of_ble_eq_true rfl) (fun X hl0 C hE => vX0_opensStill l D b0 b1 b2 b3 b4 a_shown a_calm a_windy a_turns a_many a_ever p1 p2 X hl0 C r hs hE)
def fX0_opensThrown (a_calm : Nat → Int32) (a_windy : Nat → Int32) (a_turns : Nat → Int32) (p1 : Int32) (p2 : Int32) : Option (Int32) := tg_ck p1 216 <| tg_b1 (if (a_turns (Int32.toNatClampNeg p1)) = 0 then (some p2) else (some (1 - p2))) fun (vv3 : Int32) => tg_b1 (fX0_opensStill a_calm a_windy p1 vv3) fun rr5 => some rr5
set_option maxHeartbeats 2000000 in
set_option maxRecDepth 20000 in
theorem vX0_opensThrown (l : Launch) (D : tg_D) (b0 b1 b2 b3 b4 : Nat) (a_shown : Nat → Int32) (a_calm : Nat → Int32) (a_windy : Nat → Int32) (a_turns : Nat → Int32) (a_many : Int32) (a_ever : Int32) (p1 : Int32) (p2 : Int32) (X : tg_X) (hl0 : tg_l X = l) (C : tg_C X D 3 cX0_opensThrown RX0 1 22 0 0) (r : Int32) (hs : fX0_opensThrown a_calm a_windy a_turns p1 p2 = some r) (hE : tg_Ei X D 0 0 cX0_opensThrown .int r (tw_A D b0 b1 b2 b3 b4 a_shown a_calm a_windy a_turns a_many a_ever)) : tg_G X D 3 0 0 (tw_A D b0 b1 b2 b3 b4 a_shown a_calm a_windy a_turns a_many a_ever) [(0, .ref b0), (1, .int p1), (2, .int p2)] 0 [] := by
  unfold fX0_opensThrown at hs
  refine tg_aload_n C dX0_opensThrown_0 rfl 0 rfl ?_
  refine tg_iload_n C dX0_opensThrown_1 rfl 1 rfl ?_
  refine tg_aload_n C dX0_opensThrown_2 rfl 0 rfl ?_
  refine tg_get (v := .ref b4) C cfX0 0 rfl 3 (by decide) wm_166 rfl dX0_opensThrown_3 ?_
  refine tg_iload_n C dX0_opensThrown_6 rfl 1 rfl ?_
  obtain ⟨hh1, hs⟩ := tg_ck_e hs
  refine tg_zald C 4 1 rfl rfl hh1 dX0_opensThrown_7 ?_
  obtain ⟨vv3, ee7, hs⟩ := tg_b1_e hs
  have JJ4 : tg_G X D 3 0 0 (tw_A D b0 b1 b2 b3 b4 a_shown a_calm a_windy a_turns a_many a_ever) [(0, .ref b0), (1, .int p1), (2, .int p2)] 18 [.int vv3, .int p1, .ref b0] := by
    obtain ⟨rr5, ee6, hs⟩ := tg_b1_e hs
    refine tg_pVs (As := [.int p1, .int vv3]) (rest := []) C hl0 (kX0_opensStill l D b0 b1 b2 b3 b4 a_shown a_calm a_windy a_turns a_many a_ever p1 vv3 rr5 ee6) wm_535 meX0_opensStill (by decide) rfl rfl rfl rfl (Nat.le_of_ble_eq_true rfl) dX0_opensThrown_18 ?_
    obtain rfl := Option.some.inj hs
    exact tg_iret hE rfl dX0_opensThrown_21
  have hs := ee7
  clear ee7
  refine tg_if_eq (tgt := 17) C dX0_opensThrown_8 (by decide) (fun cc2 => ?_) (fun cc2 => ?_)
  · have hs := tg_t cc2 hs
    refine tg_iload_n C dX0_opensThrown_17 rfl 2 rfl ?_
    obtain rfl := Option.some.inj hs
    exact JJ4
  · have hs := tg_f cc2 hs
    refine tg_iconst (v := 1) C dX0_opensThrown_11 (by decide) ?_
    refine tg_iload_n C dX0_opensThrown_12 rfl 2 rfl ?_
    refine tg_isub C dX0_opensThrown_13 ?_
    refine tg_goto (tgt := 18) C dX0_opensThrown_14 (by decide) ?_
    obtain rfl := Option.some.inj hs
    exact JJ4
set_option maxHeartbeats 2000000 in
set_option maxRecDepth 20000 in
theorem kX0_opensThrown (l : Launch) (D : tg_D) (b0 b1 b2 b3 b4 : Nat) (a_shown : Nat → Int32) (a_calm : Nat → Int32) (a_windy : Nat → Int32) (a_turns : Nat → Int32) (a_many : Int32) (a_ever : Int32) (p1 : Int32) (p2 : Int32) (r : Int32) (hs : fX0_opensThrown a_calm a_windy a_turns p1 p2 = some r) : Met l yX0_opensThrown [Cond.code yX0_opensThrown cX0_opensThrown 3 (some .int)] (tg_rm 1 22) (tg_Pre D (tw_A D b0 b1 b2 b3 b4 a_shown a_calm a_windy a_turns a_many a_ever) [.ref b0, .int p1, .int p2]) (vp_Si (fun r' => r' = r)) 0 0 (fun _ => False) := tg_metI (by decide) (Nat.le_of_ble_eq_true rfl) (fun X hl0 C hE => vX0_opensThrown l D b0 b1 b2 b3 b4 a_shown a_calm a_windy a_turns a_many a_ever p1 p2 X hl0 C r hs hE)
def fX0_manyOpening_L5 (a_calm : Nat → Int32) (a_windy : Nat → Int32) (a_turns : Nat → Int32) (a_many : Int32) (n1 : Int32) (n2 : Int32) : Nat → Int32 → Int32 → Option (Int32 × Int32)
  | 0, _, _ => none
  | fuel + 1, n3, n4 => if a_many ≤ n4 then (some (n3, n4)) else (tg_b1 (fX0_opensThrown a_calm a_windy a_turns n4 n2) fun rr2 => tg_b1 (if (rr2 &&& n1) = 0 then (some n3) else (tg_nm (n3 + 1) fun vv7 => some vv7)) fun (vv5 : Int32) => tg_nm (n4 + 1) fun vv8 => fX0_manyOpening_L5 a_calm a_windy a_turns a_many n1 n2 fuel vv5 vv8)
def fX0_manyOpening (a_calm : Nat → Int32) (a_windy : Nat → Int32) (a_turns : Nat → Int32) (a_many : Int32) (p1 : Int32) (p2 : Int32) : Option (Int32) := tg_b2 (fX0_manyOpening_L5 a_calm a_windy a_turns a_many p1 p2 400 0 0) fun vv10 vv11 => some vv10
set_option maxHeartbeats 2000000 in
set_option maxRecDepth 20000 in
theorem vX0_manyOpening_L5 (l : Launch) (D : tg_D) (b0 b1 b2 b3 b4 : Nat) (a_shown : Nat → Int32) (a_calm : Nat → Int32) (a_windy : Nat → Int32) (a_turns : Nat → Int32) (a_many : Int32) (a_ever : Int32) (n1 : Int32) (n2 : Int32) (X : tg_X) (hl0 : tg_l X = l) (C : tg_C X D 5 cX0_manyOpening RX0 2 44 0 0) (o_n3 : Int32) (o_n4 : Int32) : ∀ (fuel : Nat) (n3 : Int32) (n4 : Int32), fX0_manyOpening_L5 a_calm a_windy a_turns a_many n1 n2 fuel n3 n4 = some (o_n3, o_n4) → tg_G X D 5 0 0 (tw_A D b0 b1 b2 b3 b4 a_shown a_calm a_windy a_turns a_many a_ever) [(0, .ref b0), (1, .int n1), (2, .int n2), (3, .int o_n3), (4, .int o_n4)] 35 [] → tg_G X D 5 0 0 (tw_A D b0 b1 b2 b3 b4 a_shown a_calm a_windy a_turns a_many a_ever) [(0, .ref b0), (1, .int n1), (2, .int n2), (3, .int n3), (4, .int n4)] 5 [] := by
  intro fuel
  induction fuel with
  | zero =>
    intro n3 n4 hs _
    rw [fX0_manyOpening_L5] at hs
    cases hs
  | succ fuel ih =>
    intro n3 n4 hs J
    rw [fX0_manyOpening_L5] at hs
    refine tg_iload C dX0_manyOpening_5 4 rfl ?_
    refine tg_aload_n C dX0_manyOpening_7 rfl 0 rfl ?_
    refine tg_get (v := .int a_many) C cfX0 0 rfl 4 (by decide) wm_167 rfl dX0_manyOpening_8 ?_
    refine tg_icmp_ge (tgt := 35) C dX0_manyOpening_11 (by decide) (fun cc1 => ?_) (fun cc1 => ?_)
    · have hs := tg_t cc1 hs
      obtain ⟨rfl, rfl⟩ := tg_i2 hs
      exact J
    · have hs := tg_f cc1 hs
      refine tg_aload_n C dX0_manyOpening_14 rfl 0 rfl ?_
      refine tg_iload C dX0_manyOpening_15 4 rfl ?_
      refine tg_iload_n C dX0_manyOpening_17 rfl 2 rfl ?_
      obtain ⟨rr2, ee3, hs⟩ := tg_b1_e hs
      refine tg_pVs (As := [.int n4, .int n2]) (rest := []) C hl0 (kX0_opensThrown l D b0 b1 b2 b3 b4 a_shown a_calm a_windy a_turns a_many a_ever n4 n2 rr2 ee3) wm_531 meX0_opensThrown (by decide) rfl rfl rfl rfl (Nat.le_of_ble_eq_true rfl) dX0_manyOpening_18 ?_
      refine tg_iload_n C dX0_manyOpening_21 rfl 1 rfl ?_
      refine tg_iand C dX0_manyOpening_22 ?_
      obtain ⟨vv5, ee9, hs⟩ := tg_b1_e hs
      have JJ6 : tg_G X D 5 0 0 (tw_A D b0 b1 b2 b3 b4 a_shown a_calm a_windy a_turns a_many a_ever) [(0, .ref b0), (1, .int n1), (2, .int n2), (3, .int vv5), (4, .int n4)] 29 [] := by
        obtain ⟨vv8, evv8, hs⟩ := tg_nm_e hs
        refine tg_iinc (v := vv8) (lv' := [(4, .int vv8), (0, .ref b0), (1, .int n1), (2, .int n2), (3, .int vv5)]) C dX0_manyOpening_29 4 rfl (by rw [evv8]; rfl) (by decide) rfl ?_
        refine tg_goto (tgt := 5) C dX0_manyOpening_32 (by decide) ?_
        refine tg_lsub [1, 2, 3, 4, 0] rfl ?_
        exact ih vv5 vv8 hs J
      have hs := ee9
      clear ee9
      refine tg_if_eq (tgt := 29) C dX0_manyOpening_23 (by decide) (fun cc4 => ?_) (fun cc4 => ?_)
      · have hs := tg_t cc4 hs
        obtain rfl := Option.some.inj hs
        exact JJ6
      · have hs := tg_f cc4 hs
        obtain ⟨vv7, evv7, hs⟩ := tg_nm_e hs
        refine tg_iinc (v := vv7) (lv' := [(3, .int vv7), (0, .ref b0), (1, .int n1), (2, .int n2), (4, .int n4)]) C dX0_manyOpening_26 3 rfl (by rw [evv7]; rfl) (by decide) rfl ?_
        obtain rfl := Option.some.inj hs
        refine tg_lsub [1, 2, 3, 0, 4] rfl ?_
        exact JJ6
set_option maxHeartbeats 2000000 in
set_option maxRecDepth 20000 in
theorem vX0_manyOpening (l : Launch) (D : tg_D) (b0 b1 b2 b3 b4 : Nat) (a_shown : Nat → Int32) (a_calm : Nat → Int32) (a_windy : Nat → Int32) (a_turns : Nat → Int32) (a_many : Int32) (a_ever : Int32) (p1 : Int32) (p2 : Int32) (X : tg_X) (hl0 : tg_l X = l) (C : tg_C X D 5 cX0_manyOpening RX0 2 44 0 0) (r : Int32) (hs : fX0_manyOpening a_calm a_windy a_turns a_many p1 p2 = some r) (hE : tg_Ei X D 0 0 cX0_manyOpening .int r (tw_A D b0 b1 b2 b3 b4 a_shown a_calm a_windy a_turns a_many a_ever)) : tg_G X D 5 0 0 (tw_A D b0 b1 b2 b3 b4 a_shown a_calm a_windy a_turns a_many a_ever) [(0, .ref b0), (1, .int p1), (2, .int p2)] 0 [] := by
  unfold fX0_manyOpening at hs
  refine tg_iconst (v := 0) C dX0_manyOpening_0 (by decide) ?_
  refine tg_istore_n (lv' := [(3, .int 0), (0, .ref b0), (1, .int p1), (2, .int p2)]) C dX0_manyOpening_1 rfl (by decide) rfl ?_
  refine tg_iconst (v := 0) C dX0_manyOpening_2 (by decide) ?_
  refine tg_istore (lv' := [(4, .int 0), (3, .int 0), (0, .ref b0), (1, .int p1), (2, .int p2)]) C dX0_manyOpening_3 (by decide) rfl ?_
  refine tg_lsub [2, 3, 4, 1, 0] rfl ?_
  obtain ⟨vv10, vv11, ee12, hs⟩ := tg_b2_e hs
  refine vX0_manyOpening_L5 l D b0 b1 b2 b3 b4 a_shown a_calm a_windy a_turns a_many a_ever p1 p2 X hl0 C vv10 vv11 400 0 0 ee12 ?_
  refine tg_iload_n C dX0_manyOpening_35 rfl 3 rfl ?_
  obtain rfl := Option.some.inj hs
  exact tg_iret hE rfl dX0_manyOpening_36
set_option maxHeartbeats 2000000 in
set_option maxRecDepth 20000 in
theorem kX0_manyOpening (l : Launch) (D : tg_D) (b0 b1 b2 b3 b4 : Nat) (a_shown : Nat → Int32) (a_calm : Nat → Int32) (a_windy : Nat → Int32) (a_turns : Nat → Int32) (a_many : Int32) (a_ever : Int32) (p1 : Int32) (p2 : Int32) (r : Int32) (hs : fX0_manyOpening a_calm a_windy a_turns a_many p1 p2 = some r) : Met l yX0_manyOpening [Cond.code yX0_manyOpening cX0_manyOpening 5 (some .int)] (tg_rm 2 44) (tg_Pre D (tw_A D b0 b1 b2 b3 b4 a_shown a_calm a_windy a_turns a_many a_ever) [.ref b0, .int p1, .int p2]) (vp_Si (fun r' => r' = r)) 0 0 (fun _ => False) := tg_metI (by decide) (Nat.le_of_ble_eq_true rfl) (fun X hl0 C hE => vX0_manyOpening l D b0 b1 b2 b3 b4 a_shown a_calm a_windy a_turns a_many a_ever p1 p2 X hl0 C r hs hE)
def fX0_sumOpening_L5 (a_calm : Nat → Int32) (a_windy : Nat → Int32) (a_turns : Nat → Int32) (a_many : Int32) (n1 : Int32) (n2 : Int32) : Nat → Int32 → Int32 → Option (Int32 × Int32)
  | 0, _, _ => none
  | fuel + 1, n3, n4 => if a_many ≤ n4 then (some (n3, n4)) else (tg_b1 (fX0_opensThrown a_calm a_windy a_turns n4 n2) fun rr2 => tg_b1 (fJ6_bitCount_0f7a4 (rr2 &&& n1)) fun rr4 => tg_nm (n3 + rr4) fun vv6 => tg_nm (n4 + 1) fun vv7 => fX0_sumOpening_L5 a_calm a_windy a_turns a_many n1 n2 fuel vv6 vv7)
def fX0_sumOpening (a_calm : Nat → Int32) (a_windy : Nat → Int32) (a_turns : Nat → Int32) (a_many : Int32) (p1 : Int32) (p2 : Int32) : Option (Int32) := tg_b2 (fX0_sumOpening_L5 a_calm a_windy a_turns a_many p1 p2 400 0 0) fun vv8 vv9 => some vv8
set_option maxHeartbeats 2000000 in
set_option maxRecDepth 20000 in
theorem vX0_sumOpening_L5 (l : Launch) (D : tg_D) (b0 b1 b2 b3 b4 : Nat) (a_shown : Nat → Int32) (a_calm : Nat → Int32) (a_windy : Nat → Int32) (a_turns : Nat → Int32) (a_many : Int32) (a_ever : Int32) (n1 : Int32) (n2 : Int32) (X : tg_X) (hl0 : tg_l X = l) (C : tg_C X D 5 cX0_sumOpening RX0 2 44 0 0) (o_n3 : Int32) (o_n4 : Int32) : ∀ (fuel : Nat) (n3 : Int32) (n4 : Int32), fX0_sumOpening_L5 a_calm a_windy a_turns a_many n1 n2 fuel n3 n4 = some (o_n3, o_n4) → tg_G X D 5 0 0 (tw_A D b0 b1 b2 b3 b4 a_shown a_calm a_windy a_turns a_many a_ever) [(0, .ref b0), (1, .int n1), (2, .int n2), (3, .int o_n3), (4, .int o_n4)] 35 [] → tg_G X D 5 0 0 (tw_A D b0 b1 b2 b3 b4 a_shown a_calm a_windy a_turns a_many a_ever) [(0, .ref b0), (1, .int n1), (2, .int n2), (3, .int n3), (4, .int n4)] 5 [] := by
  intro fuel
  induction fuel with
  | zero =>
    intro n3 n4 hs _
    rw [fX0_sumOpening_L5] at hs
    cases hs
  | succ fuel ih =>
    intro n3 n4 hs J
    rw [fX0_sumOpening_L5] at hs
    refine tg_iload C dX0_sumOpening_5 4 rfl ?_
    refine tg_aload_n C dX0_sumOpening_7 rfl 0 rfl ?_
    refine tg_get (v := .int a_many) C cfX0 0 rfl 4 (by decide) wm_167 rfl dX0_sumOpening_8 ?_
    refine tg_icmp_ge (tgt := 35) C dX0_sumOpening_11 (by decide) (fun cc1 => ?_) (fun cc1 => ?_)
    · have hs := tg_t cc1 hs
      obtain ⟨rfl, rfl⟩ := tg_i2 hs
      exact J
    · have hs := tg_f cc1 hs
      refine tg_iload_n C dX0_sumOpening_14 rfl 3 rfl ?_
      refine tg_aload_n C dX0_sumOpening_15 rfl 0 rfl ?_
      refine tg_iload C dX0_sumOpening_16 4 rfl ?_
      refine tg_iload_n C dX0_sumOpening_18 rfl 2 rfl ?_
      obtain ⟨rr2, ee3, hs⟩ := tg_b1_e hs
      refine tg_pVs (As := [.int n4, .int n2]) (rest := [.int n3]) C hl0 (kX0_opensThrown l D b0 b1 b2 b3 b4 a_shown a_calm a_windy a_turns a_many a_ever n4 n2 rr2 ee3) wm_531 meX0_opensThrown (by decide) rfl rfl rfl rfl (Nat.le_of_ble_eq_true rfl) dX0_sumOpening_19 ?_
      refine tg_iload_n C dX0_sumOpening_22 rfl 1 rfl ?_
      refine tg_iand C dX0_sumOpening_23 ?_
      obtain ⟨rr4, ee5, hs⟩ := tg_b1_e hs
      refine tg_pS (As := [.int (rr2 &&& n1)]) (rest := [.int n3]) C hl0 (kJ6_bitCount_0f7a4 l D (rr2 &&& n1) rr4 ee5) wm_553 meJ6_bitCount_0f7a4 (by decide) rfl rfl (Nat.le_of_ble_eq_true rfl) dX0_sumOpening_24 ?_
      refine tg_iadd C dX0_sumOpening_27 ?_
      obtain ⟨vv6, evv6, hs⟩ := tg_nm_e hs
      refine tg_topi evv6 ?_
      refine tg_istore_n (lv' := [(3, .int vv6), (0, .ref b0), (1, .int n1), (2, .int n2), (4, .int n4)]) C dX0_sumOpening_28 rfl (by decide) rfl ?_
      obtain ⟨vv7, evv7, hs⟩ := tg_nm_e hs
      refine tg_iinc (v := vv7) (lv' := [(4, .int vv7), (3, .int vv6), (0, .ref b0), (1, .int n1), (2, .int n2)]) C dX0_sumOpening_29 4 rfl (by rw [evv7]; rfl) (by decide) rfl ?_
      refine tg_goto (tgt := 5) C dX0_sumOpening_32 (by decide) ?_
      refine tg_lsub [2, 3, 4, 1, 0] rfl ?_
      exact ih vv6 vv7 hs J
set_option maxHeartbeats 2000000 in
set_option maxRecDepth 20000 in
theorem vX0_sumOpening (l : Launch) (D : tg_D) (b0 b1 b2 b3 b4 : Nat) (a_shown : Nat → Int32) (a_calm : Nat → Int32) (a_windy : Nat → Int32) (a_turns : Nat → Int32) (a_many : Int32) (a_ever : Int32) (p1 : Int32) (p2 : Int32) (X : tg_X) (hl0 : tg_l X = l) (C : tg_C X D 5 cX0_sumOpening RX0 2 44 0 0) (r : Int32) (hs : fX0_sumOpening a_calm a_windy a_turns a_many p1 p2 = some r) (hE : tg_Ei X D 0 0 cX0_sumOpening .int r (tw_A D b0 b1 b2 b3 b4 a_shown a_calm a_windy a_turns a_many a_ever)) : tg_G X D 5 0 0 (tw_A D b0 b1 b2 b3 b4 a_shown a_calm a_windy a_turns a_many a_ever) [(0, .ref b0), (1, .int p1), (2, .int p2)] 0 [] := by
  unfold fX0_sumOpening at hs
  refine tg_iconst (v := 0) C dX0_sumOpening_0 (by decide) ?_
  refine tg_istore_n (lv' := [(3, .int 0), (0, .ref b0), (1, .int p1), (2, .int p2)]) C dX0_sumOpening_1 rfl (by decide) rfl ?_
  refine tg_iconst (v := 0) C dX0_sumOpening_2 (by decide) ?_
  refine tg_istore (lv' := [(4, .int 0), (3, .int 0), (0, .ref b0), (1, .int p1), (2, .int p2)]) C dX0_sumOpening_3 (by decide) rfl ?_
  refine tg_lsub [2, 3, 4, 1, 0] rfl ?_
  obtain ⟨vv8, vv9, ee10, hs⟩ := tg_b2_e hs
  refine vX0_sumOpening_L5 l D b0 b1 b2 b3 b4 a_shown a_calm a_windy a_turns a_many a_ever p1 p2 X hl0 C vv8 vv9 400 0 0 ee10 ?_
  refine tg_iload_n C dX0_sumOpening_35 rfl 3 rfl ?_
  obtain rfl := Option.some.inj hs
  exact tg_iret hE rfl dX0_sumOpening_36
set_option maxHeartbeats 2000000 in
set_option maxRecDepth 20000 in
theorem kX0_sumOpening (l : Launch) (D : tg_D) (b0 b1 b2 b3 b4 : Nat) (a_shown : Nat → Int32) (a_calm : Nat → Int32) (a_windy : Nat → Int32) (a_turns : Nat → Int32) (a_many : Int32) (a_ever : Int32) (p1 : Int32) (p2 : Int32) (r : Int32) (hs : fX0_sumOpening a_calm a_windy a_turns a_many p1 p2 = some r) : Met l yX0_sumOpening [Cond.code yX0_sumOpening cX0_sumOpening 5 (some .int)] (tg_rm 2 44) (tg_Pre D (tw_A D b0 b1 b2 b3 b4 a_shown a_calm a_windy a_turns a_many a_ever) [.ref b0, .int p1, .int p2]) (vp_Si (fun r' => r' = r)) 0 0 (fun _ => False) := tg_metI (by decide) (Nat.le_of_ble_eq_true rfl) (fun X hl0 C hE => vX0_sumOpening l D b0 b1 b2 b3 b4 a_shown a_calm a_windy a_turns a_many a_ever p1 p2 X hl0 C r hs hE)
