def fX2_isLetter (x_text : Nat → Int32) (p1 : Int32) : Option (Int32) := tg_ck p1 120 <| if (x_text (Int32.toNatClampNeg p1)) < 97 then (some 0) else (tg_ck p1 120 <| if 122 < (x_text (Int32.toNatClampNeg p1)) then (some 0) else (some 1))
set_option maxHeartbeats 2000000 in
set_option maxRecDepth 20000 in
theorem vX2_isLetter (l : Launch) (D : tg_D) (r0 e0 e1 e2 x0 : Nat) (r_fault : Int32) (r_length : Int32) (r_kind : Int32) (r_start : Int32) (r_next : Int32) (r_number : Int32) (r_dice : Int32) (r_bt : Int32) (r_gt : Int32) (d_pips : Nat → Int32) (d_many : Nat → Int32) (d_berths : Int32) (d_goal : Int32) (x_text : Nat → Int32) (p1 : Int32) (X : tg_X) (hl0 : tg_l X = l) (C : tg_C X D 2 cX2_isLetter RX2 0 0 0 0) (r : Int32) (hs : fX2_isLetter x_text p1 = some r) (hE : tg_Ei X D 0 0 cX2_isLetter .boolean r (tw_R D r0 e0 e1 e2 x0 x0 r_fault r_length r_kind r_start r_next r_number r_dice r_bt r_gt d_pips d_many d_berths d_goal x_text)) : tg_G X D 2 0 0 (tw_R D r0 e0 e1 e2 x0 x0 r_fault r_length r_kind r_start r_next r_number r_dice r_bt r_gt d_pips d_many d_berths d_goal x_text) [(0, .ref r0), (1, .int p1)] 0 [] := by
  unfold fX2_isLetter at hs
  refine tg_aload_n C dX2_isLetter_0 rfl 0 rfl ?_
  refine tg_get (v := .ref x0) C cfX2 0 rfl 2 (by decide) wm_125 rfl dX2_isLetter_1 ?_
  refine tg_iload_n C dX2_isLetter_4 rfl 1 rfl ?_
  obtain ⟨hh1, hs⟩ := tg_ck_e hs
  refine tg_cald C 4 2 rfl rfl hh1 dX2_isLetter_5 ?_
  refine tg_bipush (v := 97) C dX2_isLetter_6 (by decide) ?_
  refine tg_icmp_lt (tgt := 26) C dX2_isLetter_8 (by decide) (fun cc2 => ?_) (fun cc2 => ?_)
  · have hs := tg_t cc2 hs
    refine tg_iconst (v := 0) C dX2_isLetter_26 (by decide) ?_
    obtain rfl := Option.some.inj hs
    exact tg_iret hE rfl dX2_isLetter_27
  · have hs := tg_f cc2 hs
    refine tg_aload_n C dX2_isLetter_11 rfl 0 rfl ?_
    refine tg_get (v := .ref x0) C cfX2 0 rfl 2 (by decide) wm_125 rfl dX2_isLetter_12 ?_
    refine tg_iload_n C dX2_isLetter_15 rfl 1 rfl ?_
    obtain ⟨hh3, hs⟩ := tg_ck_e hs
    refine tg_cald C 4 2 rfl rfl hh3 dX2_isLetter_16 ?_
    refine tg_bipush (v := 122) C dX2_isLetter_17 (by decide) ?_
    refine tg_icmp_gt (tgt := 26) C dX2_isLetter_19 (by decide) (fun cc4 => ?_) (fun cc4 => ?_)
    · have hs := tg_t cc4 hs
      refine tg_iconst (v := 0) C dX2_isLetter_26 (by decide) ?_
      obtain rfl := Option.some.inj hs
      exact tg_iret hE rfl dX2_isLetter_27
    · have hs := tg_f cc4 hs
      refine tg_iconst (v := 1) C dX2_isLetter_22 (by decide) ?_
      refine tg_goto (tgt := 27) C dX2_isLetter_23 (by decide) ?_
      obtain rfl := Option.some.inj hs
      exact tg_iret hE rfl dX2_isLetter_27
set_option maxHeartbeats 2000000 in
set_option maxRecDepth 20000 in
theorem kX2_isLetter (l : Launch) (D : tg_D) (r0 e0 e1 e2 x0 : Nat) (r_fault : Int32) (r_length : Int32) (r_kind : Int32) (r_start : Int32) (r_next : Int32) (r_number : Int32) (r_dice : Int32) (r_bt : Int32) (r_gt : Int32) (d_pips : Nat → Int32) (d_many : Nat → Int32) (d_berths : Int32) (d_goal : Int32) (x_text : Nat → Int32) (p1 : Int32) (r : Int32) (hs : fX2_isLetter x_text p1 = some r) : Met l yX2_isLetter [Cond.code yX2_isLetter cX2_isLetter 2 (some .boolean)] (tg_rm 0 0) (tg_Pre D (tw_R D r0 e0 e1 e2 x0 x0 r_fault r_length r_kind r_start r_next r_number r_dice r_bt r_gt d_pips d_many d_berths d_goal x_text) [.ref r0, .int p1]) (vp_Si (fun r' => r' = r)) 0 0 (fun _ => False) := tg_metI (by decide) (Nat.le_of_ble_eq_true rfl) (fun X hl0 C hE => vX2_isLetter l D r0 e0 e1 e2 x0 r_fault r_length r_kind r_start r_next r_number r_dice r_bt r_gt d_pips d_many d_berths d_goal x_text p1 X hl0 C r hs hE)
def fX2_skipLetters_L8 (r_length : Int32) (x_text : Nat → Int32) : Nat → Int32 → Option (Int32)
  | 0, _ => none
  | fuel + 1, r_next => if r_length ≤ r_next then (some r_next) else (tg_b1 (fX2_isLetter x_text r_next) fun rr2 => if rr2 = 0 then (some r_next) else (tg_nm (r_next + 1) fun vv5 => fX2_skipLetters_L8 r_length x_text fuel vv5))
def fX2_skipLetters (r_length : Int32) (r_start : Int32) (x_text : Nat → Int32) : Option (Int32) := tg_b1 (fX2_skipLetters_L8 r_length x_text 400 r_start) fun vv6 => some vv6
set_option maxHeartbeats 2000000 in
set_option maxRecDepth 20000 in
theorem vX2_skipLetters_L8 (l : Launch) (D : tg_D) (r0 e0 e1 e2 x0 : Nat) (r_fault : Int32) (r_length : Int32) (r_kind : Int32) (r_start : Int32) (r_number : Int32) (r_dice : Int32) (r_bt : Int32) (r_gt : Int32) (d_pips : Nat → Int32) (d_many : Nat → Int32) (d_berths : Int32) (d_goal : Int32) (x_text : Nat → Int32) (X : tg_X) (hl0 : tg_l X = l) (C : tg_C X D 1 cX2_skipLetters RX2 1 21 0 0) (V : tg_V X) (o_r_next : Int32) : ∀ (fuel : Nat) (r_next : Int32), fX2_skipLetters_L8 r_length x_text fuel r_next = some o_r_next → tg_G X D 1 0 0 (tw_R D r0 e0 e1 e2 x0 x0 r_fault r_length r_kind r_start o_r_next r_number r_dice r_bt r_gt d_pips d_many d_berths d_goal x_text) [(0, .ref r0)] 43 [] → tg_G X D 1 0 0 (tw_R D r0 e0 e1 e2 x0 x0 r_fault r_length r_kind r_start r_next r_number r_dice r_bt r_gt d_pips d_many d_berths d_goal x_text) [(0, .ref r0)] 8 [] := by
  intro fuel
  induction fuel with
  | zero =>
    intro r_next hs _
    rw [fX2_skipLetters_L8] at hs
    cases hs
  | succ fuel ih =>
    intro r_next hs J
    rw [fX2_skipLetters_L8] at hs
    refine tg_aload_n C dX2_skipLetters_8 rfl 0 rfl ?_
    refine tg_get (v := .int r_next) C cfX2 0 rfl 6 (by decide) wm_129 rfl dX2_skipLetters_9 ?_
    refine tg_aload_n C dX2_skipLetters_12 rfl 0 rfl ?_
    refine tg_get (v := .int r_length) C cfX2 0 rfl 3 (by decide) wm_126 rfl dX2_skipLetters_13 ?_
    refine tg_icmp_ge (tgt := 43) C dX2_skipLetters_16 (by decide) (fun cc1 => ?_) (fun cc1 => ?_)
    · have hs := tg_t cc1 hs
      obtain rfl := Option.some.inj hs
      exact J
    · have hs := tg_f cc1 hs
      refine tg_aload_n C dX2_skipLetters_19 rfl 0 rfl ?_
      refine tg_aload_n C dX2_skipLetters_20 rfl 0 rfl ?_
      refine tg_get (v := .int r_next) C cfX2 0 rfl 6 (by decide) wm_129 rfl dX2_skipLetters_21 ?_
      obtain ⟨rr2, ee3, hs⟩ := tg_b1_e hs
      refine tg_pVs (As := [.int r_next]) (rest := []) C hl0 (kX2_isLetter l D r0 e0 e1 e2 x0 r_fault r_length r_kind r_start r_next r_number r_dice r_bt r_gt d_pips d_many d_berths d_goal x_text r_next rr2 ee3) wm_300 meX2_isLetter (by decide) rfl rfl rfl rfl (Nat.le_of_ble_eq_true rfl) dX2_skipLetters_24 ?_
      refine tg_if_eq (tgt := 43) C dX2_skipLetters_27 (by decide) (fun cc4 => ?_) (fun cc4 => ?_)
      · have hs := tg_t cc4 hs
        obtain rfl := Option.some.inj hs
        exact J
      · have hs := tg_f cc4 hs
        refine tg_aload_n C dX2_skipLetters_30 rfl 0 rfl ?_
        refine tg_dup C dX2_skipLetters_31 rfl ?_
        refine tg_get (v := .int r_next) C cfX2 0 rfl 6 (by decide) wm_129 rfl dX2_skipLetters_32 ?_
        refine tg_iconst (v := 1) C dX2_skipLetters_35 (by decide) ?_
        refine tg_iadd C dX2_skipLetters_36 ?_
        obtain ⟨vv5, evv5, hs⟩ := tg_nm_e hs
        refine tg_topi evv5 ?_
        refine tg_put (ws' := (tw_R D r0 e0 e1 e2 x0 x0 r_fault r_length r_kind r_start vv5 r_number r_dice r_bt r_gt d_pips d_many d_berths d_goal x_text)) C V cfX2 0 rfl 6 (by decide) wm_129 rfl rfl rfl (Nat.le_of_ble_eq_true rfl) rfl dX2_skipLetters_37 ?_
        refine tg_goto (tgt := 8) C dX2_skipLetters_40 (by decide) ?_
        exact ih vv5 hs J
set_option maxHeartbeats 2000000 in
set_option maxRecDepth 20000 in
theorem vX2_skipLetters (l : Launch) (D : tg_D) (r0 e0 e1 e2 x0 : Nat) (r_fault : Int32) (r_length : Int32) (r_kind : Int32) (r_start : Int32) (r_next : Int32) (r_number : Int32) (r_dice : Int32) (r_bt : Int32) (r_gt : Int32) (d_pips : Nat → Int32) (d_many : Nat → Int32) (d_berths : Int32) (d_goal : Int32) (x_text : Nat → Int32) (X : tg_X) (hl0 : tg_l X = l) (C : tg_C X D 1 cX2_skipLetters RX2 1 21 0 0) (V : tg_V X) (q_r_next : Int32) (hs : fX2_skipLetters r_length r_start x_text = some q_r_next) (hE : tg_Ev X D 0 0 cX2_skipLetters (tw_R D r0 e0 e1 e2 x0 x0 r_fault r_length r_kind r_start q_r_next r_number r_dice r_bt r_gt d_pips d_many d_berths d_goal x_text)) : tg_G X D 1 0 0 (tw_R D r0 e0 e1 e2 x0 x0 r_fault r_length r_kind r_start r_next r_number r_dice r_bt r_gt d_pips d_many d_berths d_goal x_text) [(0, .ref r0)] 0 [] := by
  unfold fX2_skipLetters at hs
  refine tg_aload_n C dX2_skipLetters_0 rfl 0 rfl ?_
  refine tg_aload_n C dX2_skipLetters_1 rfl 0 rfl ?_
  refine tg_get (v := .int r_start) C cfX2 0 rfl 5 (by decide) wm_128 rfl dX2_skipLetters_2 ?_
  refine tg_put (ws' := (tw_R D r0 e0 e1 e2 x0 x0 r_fault r_length r_kind r_start r_start r_number r_dice r_bt r_gt d_pips d_many d_berths d_goal x_text)) C V cfX2 0 rfl 6 (by decide) wm_129 rfl rfl rfl (Nat.le_of_ble_eq_true rfl) rfl dX2_skipLetters_5 ?_
  obtain ⟨vv6, ee7, hs⟩ := tg_b1_e hs
  refine vX2_skipLetters_L8 l D r0 e0 e1 e2 x0 r_fault r_length r_kind r_start r_number r_dice r_bt r_gt d_pips d_many d_berths d_goal x_text X hl0 C V vv6 400 r_start ee7 ?_
  obtain rfl := Option.some.inj hs
  exact tg_vret hE dX2_skipLetters_43
set_option maxHeartbeats 2000000 in
set_option maxRecDepth 20000 in
theorem kX2_skipLetters (l : Launch) (D : tg_D) (r0 e0 e1 e2 x0 : Nat) (r_fault : Int32) (r_length : Int32) (r_kind : Int32) (r_start : Int32) (r_next : Int32) (r_number : Int32) (r_dice : Int32) (r_bt : Int32) (r_gt : Int32) (d_pips : Nat → Int32) (d_many : Nat → Int32) (d_berths : Int32) (d_goal : Int32) (x_text : Nat → Int32) (q_r_next : Int32) (hs : fX2_skipLetters r_length r_start x_text = some q_r_next) : Met l yX2_skipLetters [Cond.code yX2_skipLetters cX2_skipLetters 1 none] (tg_rm 1 21) (tg_Pre D (tw_R D r0 e0 e1 e2 x0 x0 r_fault r_length r_kind r_start r_next r_number r_dice r_bt r_gt d_pips d_many d_berths d_goal x_text) [.ref r0]) (tg_Qe none D (tw_R D r0 e0 e1 e2 x0 x0 r_fault r_length r_kind r_start q_r_next r_number r_dice r_bt r_gt d_pips d_many d_berths d_goal x_text) (tg_Ad (tw_R D r0 e0 e1 e2 x0 x0 r_fault r_length r_kind r_start r_next r_number r_dice r_bt r_gt d_pips d_many d_berths d_goal x_text))) 0 0 (tg_Ad (tw_R D r0 e0 e1 e2 x0 x0 r_fault r_length r_kind r_start r_next r_number r_dice r_bt r_gt d_pips d_many d_berths d_goal x_text)) := tg_metEv (by decide) (Nat.le_of_ble_eq_true rfl) (fun X hl0 C V hE => vX2_skipLetters l D r0 e0 e1 e2 x0 r_fault r_length r_kind r_start r_next r_number r_dice r_bt r_gt d_pips d_many d_berths d_goal x_text X hl0 C V q_r_next hs hE)
def fX2_isDigit (x_text : Nat → Int32) (p1 : Int32) : Option (Int32) := tg_ck p1 120 <| if (x_text (Int32.toNatClampNeg p1)) < 48 then (some 0) else (tg_ck p1 120 <| if 57 < (x_text (Int32.toNatClampNeg p1)) then (some 0) else (some 1))
set_option maxHeartbeats 2000000 in
set_option maxRecDepth 20000 in
theorem vX2_isDigit (l : Launch) (D : tg_D) (r0 e0 e1 e2 x0 : Nat) (r_fault : Int32) (r_length : Int32) (r_kind : Int32) (r_start : Int32) (r_next : Int32) (r_number : Int32) (r_dice : Int32) (r_bt : Int32) (r_gt : Int32) (d_pips : Nat → Int32) (d_many : Nat → Int32) (d_berths : Int32) (d_goal : Int32) (x_text : Nat → Int32) (p1 : Int32) (X : tg_X) (hl0 : tg_l X = l) (C : tg_C X D 2 cX2_isDigit RX2 0 0 0 0) (r : Int32) (hs : fX2_isDigit x_text p1 = some r) (hE : tg_Ei X D 0 0 cX2_isDigit .boolean r (tw_R D r0 e0 e1 e2 x0 x0 r_fault r_length r_kind r_start r_next r_number r_dice r_bt r_gt d_pips d_many d_berths d_goal x_text)) : tg_G X D 2 0 0 (tw_R D r0 e0 e1 e2 x0 x0 r_fault r_length r_kind r_start r_next r_number r_dice r_bt r_gt d_pips d_many d_berths d_goal x_text) [(0, .ref r0), (1, .int p1)] 0 [] := by
  unfold fX2_isDigit at hs
  refine tg_aload_n C dX2_isDigit_0 rfl 0 rfl ?_
  refine tg_get (v := .ref x0) C cfX2 0 rfl 2 (by decide) wm_125 rfl dX2_isDigit_1 ?_
  refine tg_iload_n C dX2_isDigit_4 rfl 1 rfl ?_
  obtain ⟨hh1, hs⟩ := tg_ck_e hs
  refine tg_cald C 4 2 rfl rfl hh1 dX2_isDigit_5 ?_
  refine tg_bipush (v := 48) C dX2_isDigit_6 (by decide) ?_
  refine tg_icmp_lt (tgt := 26) C dX2_isDigit_8 (by decide) (fun cc2 => ?_) (fun cc2 => ?_)
  · have hs := tg_t cc2 hs
    refine tg_iconst (v := 0) C dX2_isDigit_26 (by decide) ?_
    obtain rfl := Option.some.inj hs
    exact tg_iret hE rfl dX2_isDigit_27
  · have hs := tg_f cc2 hs
    refine tg_aload_n C dX2_isDigit_11 rfl 0 rfl ?_
    refine tg_get (v := .ref x0) C cfX2 0 rfl 2 (by decide) wm_125 rfl dX2_isDigit_12 ?_
    refine tg_iload_n C dX2_isDigit_15 rfl 1 rfl ?_
    obtain ⟨hh3, hs⟩ := tg_ck_e hs
    refine tg_cald C 4 2 rfl rfl hh3 dX2_isDigit_16 ?_
    refine tg_bipush (v := 57) C dX2_isDigit_17 (by decide) ?_
    refine tg_icmp_gt (tgt := 26) C dX2_isDigit_19 (by decide) (fun cc4 => ?_) (fun cc4 => ?_)
    · have hs := tg_t cc4 hs
      refine tg_iconst (v := 0) C dX2_isDigit_26 (by decide) ?_
      obtain rfl := Option.some.inj hs
      exact tg_iret hE rfl dX2_isDigit_27
    · have hs := tg_f cc4 hs
      refine tg_iconst (v := 1) C dX2_isDigit_22 (by decide) ?_
      refine tg_goto (tgt := 27) C dX2_isDigit_23 (by decide) ?_
      obtain rfl := Option.some.inj hs
      exact tg_iret hE rfl dX2_isDigit_27
set_option maxHeartbeats 2000000 in
set_option maxRecDepth 20000 in
theorem kX2_isDigit (l : Launch) (D : tg_D) (r0 e0 e1 e2 x0 : Nat) (r_fault : Int32) (r_length : Int32) (r_kind : Int32) (r_start : Int32) (r_next : Int32) (r_number : Int32) (r_dice : Int32) (r_bt : Int32) (r_gt : Int32) (d_pips : Nat → Int32) (d_many : Nat → Int32) (d_berths : Int32) (d_goal : Int32) (x_text : Nat → Int32) (p1 : Int32) (r : Int32) (hs : fX2_isDigit x_text p1 = some r) : Met l yX2_isDigit [Cond.code yX2_isDigit cX2_isDigit 2 (some .boolean)] (tg_rm 0 0) (tg_Pre D (tw_R D r0 e0 e1 e2 x0 x0 r_fault r_length r_kind r_start r_next r_number r_dice r_bt r_gt d_pips d_many d_berths d_goal x_text) [.ref r0, .int p1]) (vp_Si (fun r' => r' = r)) 0 0 (fun _ => False) := tg_metI (by decide) (Nat.le_of_ble_eq_true rfl) (fun X hl0 C hE => vX2_isDigit l D r0 e0 e1 e2 x0 r_fault r_length r_kind r_start r_next r_number r_dice r_bt r_gt d_pips d_many d_berths d_goal x_text p1 X hl0 C r hs hE)
def fX2_scanNumber_L13 (r_length : Int32) (x_text : Nat → Int32) : Nat → Int32 → Int32 → Option (Int32 × Int32)
  | 0, _, _ => none
  | fuel + 1, r_next, r_number => if r_length ≤ r_next then (some (r_next, r_number)) else (tg_b1 (fX2_isDigit x_text r_next) fun rr2 => if rr2 = 0 then (some (r_next, r_number)) else (tg_ck r_next 120 <| tg_nm (if 100 < (((r_number * 10) + (x_text (Int32.toNatClampNeg r_next))) - 48) then 100 else ((r_number * 10) + (x_text (Int32.toNatClampNeg r_next))) - 48) fun vv6 => tg_nm (r_next + 1) fun vv7 => fX2_scanNumber_L13 r_length x_text fuel vv7 vv6))
def fX2_scanNumber (r_length : Int32) (r_start : Int32) (x_text : Nat → Int32) : Option (Int32 × Int32 × Int32) := tg_b2 (fX2_scanNumber_L13 r_length x_text 400 r_start 0) fun vv8 vv9 => tg_ck r_start 120 <| tg_b1 (if ¬ (x_text (Int32.toNatClampNeg r_start)) = 48 then (some (0 : Int32)) else (if (vv8 - r_start) ≤ 1 then (some (0 : Int32)) else (some (1 : Int32)))) fun (vv13 : Int32) => tg_b1 (if ¬ vv13 = 0 then (some (4 : Int32)) else (if vv9 ≤ 99 then (some (2 : Int32)) else (some (4 : Int32)))) fun (vv17 : Int32) => some (vv17, vv8, vv9)
set_option maxHeartbeats 2000000 in
set_option maxRecDepth 20000 in
theorem vX2_scanNumber_L13 (l : Launch) (D : tg_D) (r0 e0 e1 e2 x0 : Nat) (r_fault : Int32) (r_length : Int32) (r_kind : Int32) (r_start : Int32) (r_dice : Int32) (r_bt : Int32) (r_gt : Int32) (d_pips : Nat → Int32) (d_many : Nat → Int32) (d_berths : Int32) (d_goal : Int32) (x_text : Nat → Int32) (X : tg_X) (hl0 : tg_l X = l) (C : tg_C X D 2 cX2_scanNumber RX2 1 21 0 0) (V : tg_V X) (o_r_next : Int32) (o_r_number : Int32) : ∀ (fuel : Nat) (r_next : Int32) (r_number : Int32), fX2_scanNumber_L13 r_length x_text fuel r_next r_number = some (o_r_next, o_r_number) → tg_G X D 2 0 0 (tw_R D r0 e0 e1 e2 x0 x0 r_fault r_length r_kind r_start o_r_next o_r_number r_dice r_bt r_gt d_pips d_many d_berths d_goal x_text) [(0, .ref r0)] 77 [] → tg_G X D 2 0 0 (tw_R D r0 e0 e1 e2 x0 x0 r_fault r_length r_kind r_start r_next r_number r_dice r_bt r_gt d_pips d_many d_berths d_goal x_text) [(0, .ref r0)] 13 [] := by
  intro fuel
  induction fuel with
  | zero =>
    intro r_next r_number hs _
    rw [fX2_scanNumber_L13] at hs
    cases hs
  | succ fuel ih =>
    intro r_next r_number hs J
    rw [fX2_scanNumber_L13] at hs
    refine tg_aload_n C dX2_scanNumber_13 rfl 0 rfl ?_
    refine tg_get (v := .int r_next) C cfX2 0 rfl 6 (by decide) wm_129 rfl dX2_scanNumber_14 ?_
    refine tg_aload_n C dX2_scanNumber_17 rfl 0 rfl ?_
    refine tg_get (v := .int r_length) C cfX2 0 rfl 3 (by decide) wm_126 rfl dX2_scanNumber_18 ?_
    refine tg_icmp_ge (tgt := 77) C dX2_scanNumber_21 (by decide) (fun cc1 => ?_) (fun cc1 => ?_)
    · have hs := tg_t cc1 hs
      obtain ⟨rfl, rfl⟩ := tg_i2 hs
      exact J
    · have hs := tg_f cc1 hs
      refine tg_aload_n C dX2_scanNumber_24 rfl 0 rfl ?_
      refine tg_aload_n C dX2_scanNumber_25 rfl 0 rfl ?_
      refine tg_get (v := .int r_next) C cfX2 0 rfl 6 (by decide) wm_129 rfl dX2_scanNumber_26 ?_
      obtain ⟨rr2, ee3, hs⟩ := tg_b1_e hs
      refine tg_pVs (As := [.int r_next]) (rest := []) C hl0 (kX2_isDigit l D r0 e0 e1 e2 x0 r_fault r_length r_kind r_start r_next r_number r_dice r_bt r_gt d_pips d_many d_berths d_goal x_text r_next rr2 ee3) wm_308 meX2_isDigit (by decide) rfl rfl rfl rfl (Nat.le_of_ble_eq_true rfl) dX2_scanNumber_29 ?_
      refine tg_if_eq (tgt := 77) C dX2_scanNumber_32 (by decide) (fun cc4 => ?_) (fun cc4 => ?_)
      · have hs := tg_t cc4 hs
        obtain ⟨rfl, rfl⟩ := tg_i2 hs
        exact J
      · have hs := tg_f cc4 hs
        refine tg_aload_n C dX2_scanNumber_35 rfl 0 rfl ?_
        refine tg_aload_n C dX2_scanNumber_36 rfl 0 rfl ?_
        refine tg_get (v := .int r_number) C cfX2 0 rfl 7 (by decide) wm_130 rfl dX2_scanNumber_37 ?_
        refine tg_bipush (v := 10) C dX2_scanNumber_40 (by decide) ?_
        refine tg_imul C dX2_scanNumber_42 ?_
        refine tg_aload_n C dX2_scanNumber_43 rfl 0 rfl ?_
        refine tg_get (v := .ref x0) C cfX2 0 rfl 2 (by decide) wm_125 rfl dX2_scanNumber_44 ?_
        refine tg_aload_n C dX2_scanNumber_47 rfl 0 rfl ?_
        refine tg_get (v := .int r_next) C cfX2 0 rfl 6 (by decide) wm_129 rfl dX2_scanNumber_48 ?_
        obtain ⟨hh5, hs⟩ := tg_ck_e hs
        refine tg_cald C 4 2 rfl rfl hh5 dX2_scanNumber_51 ?_
        refine tg_iadd C dX2_scanNumber_52 ?_
        refine tg_bipush (v := 48) C dX2_scanNumber_53 (by decide) ?_
        refine tg_isub C dX2_scanNumber_55 ?_
        refine tg_bipush (v := 100) C dX2_scanNumber_56 (by decide) ?_
        refine tg_mmin C wm_292 wm_293 wm_68 wm_294 ⟨Nat.le_of_ble_eq_true rfl, Nat.le_of_ble_eq_true rfl, Nat.le_of_ble_eq_true rfl, Nat.le_of_ble_eq_true rfl⟩ dX2_scanNumber_58 ?_
        obtain ⟨vv6, evv6, hs⟩ := tg_nm_e hs
        refine tg_topi evv6 ?_
        refine tg_put (ws' := (tw_R D r0 e0 e1 e2 x0 x0 r_fault r_length r_kind r_start r_next vv6 r_dice r_bt r_gt d_pips d_many d_berths d_goal x_text)) C V cfX2 0 rfl 7 (by decide) wm_130 rfl rfl rfl (Nat.le_of_ble_eq_true rfl) rfl dX2_scanNumber_61 ?_
        refine tg_aload_n C dX2_scanNumber_64 rfl 0 rfl ?_
        refine tg_dup C dX2_scanNumber_65 rfl ?_
        refine tg_get (v := .int r_next) C cfX2 0 rfl 6 (by decide) wm_129 rfl dX2_scanNumber_66 ?_
        refine tg_iconst (v := 1) C dX2_scanNumber_69 (by decide) ?_
        refine tg_iadd C dX2_scanNumber_70 ?_
        obtain ⟨vv7, evv7, hs⟩ := tg_nm_e hs
        refine tg_topi evv7 ?_
        refine tg_put (ws' := (tw_R D r0 e0 e1 e2 x0 x0 r_fault r_length r_kind r_start vv7 vv6 r_dice r_bt r_gt d_pips d_many d_berths d_goal x_text)) C V cfX2 0 rfl 6 (by decide) wm_129 rfl rfl rfl (Nat.le_of_ble_eq_true rfl) rfl dX2_scanNumber_71 ?_
        refine tg_goto (tgt := 13) C dX2_scanNumber_74 (by decide) ?_
        exact ih vv7 vv6 hs J
set_option maxHeartbeats 2000000 in
set_option maxRecDepth 20000 in
theorem vX2_scanNumber (l : Launch) (D : tg_D) (r0 e0 e1 e2 x0 : Nat) (r_fault : Int32) (r_length : Int32) (r_kind : Int32) (r_start : Int32) (r_next : Int32) (r_number : Int32) (r_dice : Int32) (r_bt : Int32) (r_gt : Int32) (d_pips : Nat → Int32) (d_many : Nat → Int32) (d_berths : Int32) (d_goal : Int32) (x_text : Nat → Int32) (X : tg_X) (hl0 : tg_l X = l) (C : tg_C X D 2 cX2_scanNumber RX2 1 21 0 0) (V : tg_V X) (q_r_kind : Int32) (q_r_next : Int32) (q_r_number : Int32) (hs : fX2_scanNumber r_length r_start x_text = some (q_r_kind, q_r_next, q_r_number)) (hE : tg_Ev X D 0 0 cX2_scanNumber (tw_R D r0 e0 e1 e2 x0 x0 r_fault r_length q_r_kind r_start q_r_next q_r_number r_dice r_bt r_gt d_pips d_many d_berths d_goal x_text)) : tg_G X D 2 0 0 (tw_R D r0 e0 e1 e2 x0 x0 r_fault r_length r_kind r_start r_next r_number r_dice r_bt r_gt d_pips d_many d_berths d_goal x_text) [(0, .ref r0)] 0 [] := by
  unfold fX2_scanNumber at hs
  refine tg_aload_n C dX2_scanNumber_0 rfl 0 rfl ?_
  refine tg_iconst (v := 0) C dX2_scanNumber_1 (by decide) ?_
  refine tg_put (ws' := (tw_R D r0 e0 e1 e2 x0 x0 r_fault r_length r_kind r_start r_next 0 r_dice r_bt r_gt d_pips d_many d_berths d_goal x_text)) C V cfX2 0 rfl 7 (by decide) wm_130 rfl rfl rfl (Nat.le_of_ble_eq_true rfl) rfl dX2_scanNumber_2 ?_
  refine tg_aload_n C dX2_scanNumber_5 rfl 0 rfl ?_
  refine tg_aload_n C dX2_scanNumber_6 rfl 0 rfl ?_
  refine tg_get (v := .int r_start) C cfX2 0 rfl 5 (by decide) wm_128 rfl dX2_scanNumber_7 ?_
  refine tg_put (ws' := (tw_R D r0 e0 e1 e2 x0 x0 r_fault r_length r_kind r_start r_start 0 r_dice r_bt r_gt d_pips d_many d_berths d_goal x_text)) C V cfX2 0 rfl 6 (by decide) wm_129 rfl rfl rfl (Nat.le_of_ble_eq_true rfl) rfl dX2_scanNumber_10 ?_
  obtain ⟨vv8, vv9, ee10, hs⟩ := tg_b2_e hs
  refine vX2_scanNumber_L13 l D r0 e0 e1 e2 x0 r_fault r_length r_kind r_start r_dice r_bt r_gt d_pips d_many d_berths d_goal x_text X hl0 C V vv8 vv9 400 r_start 0 ee10 ?_
  refine tg_aload_n C dX2_scanNumber_77 rfl 0 rfl ?_
  refine tg_get (v := .ref x0) C cfX2 0 rfl 2 (by decide) wm_125 rfl dX2_scanNumber_78 ?_
  refine tg_aload_n C dX2_scanNumber_81 rfl 0 rfl ?_
  refine tg_get (v := .int r_start) C cfX2 0 rfl 5 (by decide) wm_128 rfl dX2_scanNumber_82 ?_
  obtain ⟨hh11, hs⟩ := tg_ck_e hs
  refine tg_cald C 4 2 rfl rfl hh11 dX2_scanNumber_85 ?_
  refine tg_bipush (v := 48) C dX2_scanNumber_86 (by decide) ?_
  obtain ⟨vv13, ee21, hs⟩ := tg_b1_e hs
  have JJ14 : tg_G X D 2 0 0 (tw_R D r0 e0 e1 e2 x0 x0 r_fault r_length r_kind r_start vv8 vv9 r_dice r_bt r_gt d_pips d_many d_berths d_goal x_text) [(0, .ref r0)] 109 [.int vv13] := by
    refine tg_istore_n (lv' := [(1, .int vv13), (0, .ref r0)]) C dX2_scanNumber_109 rfl (by decide) rfl ?_
    refine tg_aload_n C dX2_scanNumber_110 rfl 1 rfl ?_
    refine tg_iload_n C dX2_scanNumber_111 rfl 0 rfl ?_
    obtain ⟨vv17, ee20, hs⟩ := tg_b1_e hs
    have JJ18 : tg_G X D 2 0 0 (tw_R D r0 e0 e1 e2 x0 x0 r_fault r_length r_kind r_start vv8 vv9 r_dice r_bt r_gt d_pips d_many d_berths d_goal x_text) [(0, .ref r0), (1, .int vv13)] 129 [.int vv17, .ref r0] := by
      refine tg_put (ws' := (tw_R D r0 e0 e1 e2 x0 x0 r_fault r_length vv17 r_start vv8 vv9 r_dice r_bt r_gt d_pips d_many d_berths d_goal x_text)) C V cfX2 0 rfl 4 (by decide) wm_127 rfl rfl rfl (Nat.le_of_ble_eq_true rfl) rfl dX2_scanNumber_129 ?_
      obtain ⟨rfl, rfl, rfl⟩ := tg_i3 hs
      exact tg_vret hE dX2_scanNumber_132
    have hs := ee20
    clear ee20
    refine tg_if_ne (tgt := 124) C dX2_scanNumber_112 (by decide) (fun cc16 => ?_) (fun cc16 => ?_)
    · have hs := tg_t cc16 hs
      refine tg_iconst (v := 4) C dX2_scanNumber_124 (by decide) ?_
      refine tg_goto (tgt := 129) C dX2_scanNumber_125 (by decide) ?_
      obtain rfl := Option.some.inj hs
      refine tg_lsub [1, 0] rfl ?_
      exact JJ18
    · have hs := tg_nf cc16 hs
      refine tg_aload_n C dX2_scanNumber_115 rfl 1 rfl ?_
      refine tg_get (v := .int vv9) C cfX2 0 rfl 7 (by decide) wm_130 rfl dX2_scanNumber_116 ?_
      refine tg_bipush (v := 99) C dX2_scanNumber_119 (by decide) ?_
      refine tg_icmp_le (tgt := 128) C dX2_scanNumber_121 (by decide) (fun cc19 => ?_) (fun cc19 => ?_)
      · have hs := tg_t cc19 hs
        refine tg_iconst (v := 2) C dX2_scanNumber_128 (by decide) ?_
        obtain rfl := Option.some.inj hs
        refine tg_lsub [1, 0] rfl ?_
        exact JJ18
      · have hs := tg_f cc19 hs
        refine tg_iconst (v := 4) C dX2_scanNumber_124 (by decide) ?_
        refine tg_goto (tgt := 129) C dX2_scanNumber_125 (by decide) ?_
        obtain rfl := Option.some.inj hs
        refine tg_lsub [1, 0] rfl ?_
        exact JJ18
  have hs := ee21
  clear ee21
  refine tg_icmp_ne (tgt := 108) C dX2_scanNumber_88 (by decide) (fun cc12 => ?_) (fun cc12 => ?_)
  · have hs := tg_t cc12 hs
    refine tg_iconst (v := 0) C dX2_scanNumber_108 (by decide) ?_
    obtain rfl := Option.some.inj hs
    exact JJ14
  · have hs := tg_nf cc12 hs
    refine tg_aload_n C dX2_scanNumber_91 rfl 0 rfl ?_
    refine tg_get (v := .int vv8) C cfX2 0 rfl 6 (by decide) wm_129 rfl dX2_scanNumber_92 ?_
    refine tg_aload_n C dX2_scanNumber_95 rfl 0 rfl ?_
    refine tg_get (v := .int r_start) C cfX2 0 rfl 5 (by decide) wm_128 rfl dX2_scanNumber_96 ?_
    refine tg_isub C dX2_scanNumber_99 ?_
    refine tg_iconst (v := 1) C dX2_scanNumber_100 (by decide) ?_
    refine tg_icmp_le (tgt := 108) C dX2_scanNumber_101 (by decide) (fun cc15 => ?_) (fun cc15 => ?_)
    · have hs := tg_t cc15 hs
      refine tg_iconst (v := 0) C dX2_scanNumber_108 (by decide) ?_
      obtain rfl := Option.some.inj hs
      exact JJ14
    · have hs := tg_f cc15 hs
      refine tg_iconst (v := 1) C dX2_scanNumber_104 (by decide) ?_
      refine tg_goto (tgt := 109) C dX2_scanNumber_105 (by decide) ?_
      obtain rfl := Option.some.inj hs
      exact JJ14
set_option maxHeartbeats 2000000 in
set_option maxRecDepth 20000 in
theorem kX2_scanNumber (l : Launch) (D : tg_D) (r0 e0 e1 e2 x0 : Nat) (r_fault : Int32) (r_length : Int32) (r_kind : Int32) (r_start : Int32) (r_next : Int32) (r_number : Int32) (r_dice : Int32) (r_bt : Int32) (r_gt : Int32) (d_pips : Nat → Int32) (d_many : Nat → Int32) (d_berths : Int32) (d_goal : Int32) (x_text : Nat → Int32) (q_r_kind : Int32) (q_r_next : Int32) (q_r_number : Int32) (hs : fX2_scanNumber r_length r_start x_text = some (q_r_kind, q_r_next, q_r_number)) : Met l yX2_scanNumber [Cond.code yX2_scanNumber cX2_scanNumber 2 none] (tg_rm 1 21) (tg_Pre D (tw_R D r0 e0 e1 e2 x0 x0 r_fault r_length r_kind r_start r_next r_number r_dice r_bt r_gt d_pips d_many d_berths d_goal x_text) [.ref r0]) (tg_Qe none D (tw_R D r0 e0 e1 e2 x0 x0 r_fault r_length q_r_kind r_start q_r_next q_r_number r_dice r_bt r_gt d_pips d_many d_berths d_goal x_text) (tg_Ad (tw_R D r0 e0 e1 e2 x0 x0 r_fault r_length r_kind r_start r_next r_number r_dice r_bt r_gt d_pips d_many d_berths d_goal x_text))) 0 0 (tg_Ad (tw_R D r0 e0 e1 e2 x0 x0 r_fault r_length r_kind r_start r_next r_number r_dice r_bt r_gt d_pips d_many d_berths d_goal x_text)) := tg_metEv (by decide) (Nat.le_of_ble_eq_true rfl) (fun X hl0 C V hE => vX2_scanNumber l D r0 e0 e1 e2 x0 r_fault r_length r_kind r_start r_next r_number r_dice r_bt r_gt d_pips d_many d_berths d_goal x_text X hl0 C V q_r_kind q_r_next q_r_number hs hE)
def fX2_advance_L8 (r_length : Int32) (x_text : Nat → Int32) : Nat → Int32 → Option (Int32)
  | 0, _ => none
  | fuel + 1, r_start => if r_length ≤ r_start then (some r_start) else (tg_ck r_start 120 <| if ¬ (x_text (Int32.toNatClampNeg r_start)) = 32 then (some r_start) else (tg_nm (r_start + 1) fun vv4 => fX2_advance_L8 r_length x_text fuel vv4))
def fX2_advance (r_length : Int32) (r_next : Int32) (r_number : Int32) (x_text : Nat → Int32) : Option (Int32 × Int32 × Int32 × Int32) := tg_b1 (fX2_advance_L8 r_length x_text 400 r_next) fun vv5 => if vv5 < r_length then (tg_b1 (fX2_isLetter x_text vv5) fun rr8 => if rr8 = 0 then (tg_b1 (fX2_isDigit x_text vv5) fun rr11 => if rr11 = 0 then (tg_ck vv5 120 <| tg_b1 (if ¬ (x_text (Int32.toNatClampNeg vv5)) = 59 then (some (4 : Int32)) else (some (3 : Int32))) fun (vv16 : Int32) => tg_nm (vv5 + 1) fun vv18 => some (vv16, vv5, vv18, r_number)) else (tg_b3 (fX2_scanNumber r_length vv5 x_text) fun vv20 vv21 vv22 => some (vv20, vv5, vv21, vv22))) else (tg_b1 (fX2_skipLetters r_length vv5 x_text) fun vv24 => some (1, vv5, vv24, r_number))) else (some (0, vv5, r_length, r_number))
set_option maxHeartbeats 2000000 in
set_option maxRecDepth 20000 in
theorem vX2_advance_L8 (l : Launch) (D : tg_D) (r0 e0 e1 e2 x0 : Nat) (r_fault : Int32) (r_length : Int32) (r_kind : Int32) (r_next : Int32) (r_number : Int32) (r_dice : Int32) (r_bt : Int32) (r_gt : Int32) (d_pips : Nat → Int32) (d_many : Nat → Int32) (d_berths : Int32) (d_goal : Int32) (x_text : Nat → Int32) (X : tg_X) (hl0 : tg_l X = l) (C : tg_C X D 1 cX2_advance RX2 2 42 0 0) (V : tg_V X) (o_r_start : Int32) : ∀ (fuel : Nat) (r_start : Int32), fX2_advance_L8 r_length x_text fuel r_start = some o_r_start → tg_G X D 1 0 0 (tw_R D r0 e0 e1 e2 x0 x0 r_fault r_length r_kind o_r_start r_next r_number r_dice r_bt r_gt d_pips d_many d_berths d_goal x_text) [(0, .ref r0)] 46 [] → tg_G X D 1 0 0 (tw_R D r0 e0 e1 e2 x0 x0 r_fault r_length r_kind r_start r_next r_number r_dice r_bt r_gt d_pips d_many d_berths d_goal x_text) [(0, .ref r0)] 8 [] := by
  intro fuel
  induction fuel with
  | zero =>
    intro r_start hs _
    rw [fX2_advance_L8] at hs
    cases hs
  | succ fuel ih =>
    intro r_start hs J
    rw [fX2_advance_L8] at hs
    refine tg_aload_n C dX2_advance_8 rfl 0 rfl ?_
    refine tg_get (v := .int r_start) C cfX2 0 rfl 5 (by decide) wm_128 rfl dX2_advance_9 ?_
    refine tg_aload_n C dX2_advance_12 rfl 0 rfl ?_
    refine tg_get (v := .int r_length) C cfX2 0 rfl 3 (by decide) wm_126 rfl dX2_advance_13 ?_
    refine tg_icmp_ge (tgt := 46) C dX2_advance_16 (by decide) (fun cc1 => ?_) (fun cc1 => ?_)
    · have hs := tg_t cc1 hs
      obtain rfl := Option.some.inj hs
      exact J
    · have hs := tg_f cc1 hs
      refine tg_aload_n C dX2_advance_19 rfl 0 rfl ?_
      refine tg_get (v := .ref x0) C cfX2 0 rfl 2 (by decide) wm_125 rfl dX2_advance_20 ?_
      refine tg_aload_n C dX2_advance_23 rfl 0 rfl ?_
      refine tg_get (v := .int r_start) C cfX2 0 rfl 5 (by decide) wm_128 rfl dX2_advance_24 ?_
      obtain ⟨hh2, hs⟩ := tg_ck_e hs
      refine tg_cald C 4 2 rfl rfl hh2 dX2_advance_27 ?_
      refine tg_bipush (v := 32) C dX2_advance_28 (by decide) ?_
      refine tg_icmp_ne (tgt := 46) C dX2_advance_30 (by decide) (fun cc3 => ?_) (fun cc3 => ?_)
      · have hs := tg_t cc3 hs
        obtain rfl := Option.some.inj hs
        exact J
      · have hs := tg_nf cc3 hs
        refine tg_aload_n C dX2_advance_33 rfl 0 rfl ?_
        refine tg_dup C dX2_advance_34 rfl ?_
        refine tg_get (v := .int r_start) C cfX2 0 rfl 5 (by decide) wm_128 rfl dX2_advance_35 ?_
        refine tg_iconst (v := 1) C dX2_advance_38 (by decide) ?_
        refine tg_iadd C dX2_advance_39 ?_
        obtain ⟨vv4, evv4, hs⟩ := tg_nm_e hs
        refine tg_topi evv4 ?_
        refine tg_put (ws' := (tw_R D r0 e0 e1 e2 x0 x0 r_fault r_length r_kind vv4 r_next r_number r_dice r_bt r_gt d_pips d_many d_berths d_goal x_text)) C V cfX2 0 rfl 5 (by decide) wm_128 rfl rfl rfl (Nat.le_of_ble_eq_true rfl) rfl dX2_advance_40 ?_
        refine tg_goto (tgt := 8) C dX2_advance_43 (by decide) ?_
        exact ih vv4 hs J
set_option maxHeartbeats 2000000 in
set_option maxRecDepth 20000 in
theorem vX2_advance (l : Launch) (D : tg_D) (r0 e0 e1 e2 x0 : Nat) (r_fault : Int32) (r_length : Int32) (r_kind : Int32) (r_start : Int32) (r_next : Int32) (r_number : Int32) (r_dice : Int32) (r_bt : Int32) (r_gt : Int32) (d_pips : Nat → Int32) (d_many : Nat → Int32) (d_berths : Int32) (d_goal : Int32) (x_text : Nat → Int32) (X : tg_X) (hl0 : tg_l X = l) (C : tg_C X D 1 cX2_advance RX2 2 42 0 0) (V : tg_V X) (q_r_kind : Int32) (q_r_start : Int32) (q_r_next : Int32) (q_r_number : Int32) (hs : fX2_advance r_length r_next r_number x_text = some (q_r_kind, q_r_start, q_r_next, q_r_number)) (hE : tg_Ev X D 0 0 cX2_advance (tw_R D r0 e0 e1 e2 x0 x0 r_fault r_length q_r_kind q_r_start q_r_next q_r_number r_dice r_bt r_gt d_pips d_many d_berths d_goal x_text)) : tg_G X D 1 0 0 (tw_R D r0 e0 e1 e2 x0 x0 r_fault r_length r_kind r_start r_next r_number r_dice r_bt r_gt d_pips d_many d_berths d_goal x_text) [(0, .ref r0)] 0 [] := by
  unfold fX2_advance at hs
  refine tg_aload_n C dX2_advance_0 rfl 0 rfl ?_
  refine tg_aload_n C dX2_advance_1 rfl 0 rfl ?_
  refine tg_get (v := .int r_next) C cfX2 0 rfl 6 (by decide) wm_129 rfl dX2_advance_2 ?_
  refine tg_put (ws' := (tw_R D r0 e0 e1 e2 x0 x0 r_fault r_length r_kind r_next r_next r_number r_dice r_bt r_gt d_pips d_many d_berths d_goal x_text)) C V cfX2 0 rfl 5 (by decide) wm_128 rfl rfl rfl (Nat.le_of_ble_eq_true rfl) rfl dX2_advance_5 ?_
  obtain ⟨vv5, ee6, hs⟩ := tg_b1_e hs
  refine vX2_advance_L8 l D r0 e0 e1 e2 x0 r_fault r_length r_kind r_next r_number r_dice r_bt r_gt d_pips d_many d_berths d_goal x_text X hl0 C V vv5 400 r_next ee6 ?_
  refine tg_aload_n C dX2_advance_46 rfl 0 rfl ?_
  refine tg_get (v := .int vv5) C cfX2 0 rfl 5 (by decide) wm_128 rfl dX2_advance_47 ?_
  refine tg_aload_n C dX2_advance_50 rfl 0 rfl ?_
  refine tg_get (v := .int r_length) C cfX2 0 rfl 3 (by decide) wm_126 rfl dX2_advance_51 ?_
  refine tg_icmp_lt (tgt := 73) C dX2_advance_54 (by decide) (fun cc7 => ?_) (fun cc7 => ?_)
  · have hs := tg_t cc7 hs
    refine tg_aload_n C dX2_advance_73 rfl 0 rfl ?_
    refine tg_aload_n C dX2_advance_74 rfl 0 rfl ?_
    refine tg_get (v := .int vv5) C cfX2 0 rfl 5 (by decide) wm_128 rfl dX2_advance_75 ?_
    obtain ⟨rr8, ee9, hs⟩ := tg_b1_e hs
    refine tg_pVs (As := [.int vv5]) (rest := []) C hl0 (kX2_isLetter l D r0 e0 e1 e2 x0 r_fault r_length r_kind vv5 r_next r_number r_dice r_bt r_gt d_pips d_many d_berths d_goal x_text vv5 rr8 ee9) wm_300 meX2_isLetter (by decide) rfl rfl rfl rfl (Nat.le_of_ble_eq_true rfl) dX2_advance_78 ?_
    refine tg_if_eq (tgt := 96) C dX2_advance_81 (by decide) (fun cc10 => ?_) (fun cc10 => ?_)
    · have hs := tg_t cc10 hs
      refine tg_aload_n C dX2_advance_96 rfl 0 rfl ?_
      refine tg_aload_n C dX2_advance_97 rfl 0 rfl ?_
      refine tg_get (v := .int vv5) C cfX2 0 rfl 5 (by decide) wm_128 rfl dX2_advance_98 ?_
      obtain ⟨rr11, ee12, hs⟩ := tg_b1_e hs
      refine tg_pVs (As := [.int vv5]) (rest := []) C hl0 (kX2_isDigit l D r0 e0 e1 e2 x0 r_fault r_length r_kind vv5 r_next r_number r_dice r_bt r_gt d_pips d_many d_berths d_goal x_text vv5 rr11 ee12) wm_308 meX2_isDigit (by decide) rfl rfl rfl rfl (Nat.le_of_ble_eq_true rfl) dX2_advance_101 ?_
      refine tg_if_eq (tgt := 114) C dX2_advance_104 (by decide) (fun cc13 => ?_) (fun cc13 => ?_)
      · have hs := tg_t cc13 hs
        refine tg_aload_n C dX2_advance_114 rfl 0 rfl ?_
        refine tg_aload_n C dX2_advance_115 rfl 0 rfl ?_
        refine tg_get (v := .ref x0) C cfX2 0 rfl 2 (by decide) wm_125 rfl dX2_advance_116 ?_
        refine tg_aload_n C dX2_advance_119 rfl 0 rfl ?_
        refine tg_get (v := .int vv5) C cfX2 0 rfl 5 (by decide) wm_128 rfl dX2_advance_120 ?_
        obtain ⟨hh14, hs⟩ := tg_ck_e hs
        refine tg_cald C 4 2 rfl rfl hh14 dX2_advance_123 ?_
        refine tg_bipush (v := 59) C dX2_advance_124 (by decide) ?_
        obtain ⟨vv16, ee19, hs⟩ := tg_b1_e hs
        have JJ17 : tg_G X D 1 0 0 (tw_R D r0 e0 e1 e2 x0 x0 r_fault r_length r_kind vv5 r_next r_number r_dice r_bt r_gt d_pips d_many d_berths d_goal x_text) [(0, .ref r0)] 134 [.int vv16, .ref r0] := by
          refine tg_put (ws' := (tw_R D r0 e0 e1 e2 x0 x0 r_fault r_length vv16 vv5 r_next r_number r_dice r_bt r_gt d_pips d_many d_berths d_goal x_text)) C V cfX2 0 rfl 4 (by decide) wm_127 rfl rfl rfl (Nat.le_of_ble_eq_true rfl) rfl dX2_advance_134 ?_
          refine tg_aload_n C dX2_advance_137 rfl 0 rfl ?_
          refine tg_aload_n C dX2_advance_138 rfl 0 rfl ?_
          refine tg_get (v := .int vv5) C cfX2 0 rfl 5 (by decide) wm_128 rfl dX2_advance_139 ?_
          refine tg_iconst (v := 1) C dX2_advance_142 (by decide) ?_
          refine tg_iadd C dX2_advance_143 ?_
          obtain ⟨vv18, evv18, hs⟩ := tg_nm_e hs
          refine tg_topi evv18 ?_
          refine tg_put (ws' := (tw_R D r0 e0 e1 e2 x0 x0 r_fault r_length vv16 vv5 vv18 r_number r_dice r_bt r_gt d_pips d_many d_berths d_goal x_text)) C V cfX2 0 rfl 6 (by decide) wm_129 rfl rfl rfl (Nat.le_of_ble_eq_true rfl) rfl dX2_advance_144 ?_
          obtain ⟨rfl, rfl, rfl, rfl⟩ := tg_i4 hs
          exact tg_vret hE dX2_advance_147
        have hs := ee19
        clear ee19
        refine tg_icmp_ne (tgt := 133) C dX2_advance_126 (by decide) (fun cc15 => ?_) (fun cc15 => ?_)
        · have hs := tg_t cc15 hs
          refine tg_iconst (v := 4) C dX2_advance_133 (by decide) ?_
          obtain rfl := Option.some.inj hs
          exact JJ17
        · have hs := tg_nf cc15 hs
          refine tg_iconst (v := 3) C dX2_advance_129 (by decide) ?_
          refine tg_goto (tgt := 134) C dX2_advance_130 (by decide) ?_
          obtain rfl := Option.some.inj hs
          exact JJ17
      · have hs := tg_f cc13 hs
        refine tg_aload_n C dX2_advance_107 rfl 0 rfl ?_
        obtain ⟨vv20, vv21, vv22, ee23, hs⟩ := tg_b3_e hs
        refine tg_eVs (ws' := (tw_R D r0 e0 e1 e2 x0 x0 r_fault r_length vv20 vv5 vv21 vv22 r_dice r_bt r_gt d_pips d_many d_berths d_goal x_text)) (As := []) (rest := []) C V hl0 (kX2_scanNumber l D r0 e0 e1 e2 x0 r_fault r_length r_kind vv5 r_next r_number r_dice r_bt r_gt d_pips d_many d_berths d_goal x_text vv20 vv21 vv22 ee23) wm_312 meX2_scanNumber (by decide) rfl rfl rfl rfl (Nat.le_of_ble_eq_true rfl) rfl dX2_advance_108 ?_
        refine tg_goto (tgt := 147) C dX2_advance_111 (by decide) ?_
        obtain ⟨rfl, rfl, rfl, rfl⟩ := tg_i4 hs
        exact tg_vret hE dX2_advance_147
    · have hs := tg_f cc10 hs
      refine tg_aload_n C dX2_advance_84 rfl 0 rfl ?_
      refine tg_iconst (v := 1) C dX2_advance_85 (by decide) ?_
      refine tg_put (ws' := (tw_R D r0 e0 e1 e2 x0 x0 r_fault r_length 1 vv5 r_next r_number r_dice r_bt r_gt d_pips d_many d_berths d_goal x_text)) C V cfX2 0 rfl 4 (by decide) wm_127 rfl rfl rfl (Nat.le_of_ble_eq_true rfl) rfl dX2_advance_86 ?_
      refine tg_aload_n C dX2_advance_89 rfl 0 rfl ?_
      obtain ⟨vv24, ee25, hs⟩ := tg_b1_e hs
      refine tg_eVs (ws' := (tw_R D r0 e0 e1 e2 x0 x0 r_fault r_length 1 vv5 vv24 r_number r_dice r_bt r_gt d_pips d_many d_berths d_goal x_text)) (As := []) (rest := []) C V hl0 (kX2_skipLetters l D r0 e0 e1 e2 x0 r_fault r_length 1 vv5 r_next r_number r_dice r_bt r_gt d_pips d_many d_berths d_goal x_text vv24 ee25) wm_304 meX2_skipLetters (by decide) rfl rfl rfl rfl (Nat.le_of_ble_eq_true rfl) rfl dX2_advance_90 ?_
      refine tg_goto (tgt := 147) C dX2_advance_93 (by decide) ?_
      obtain ⟨rfl, rfl, rfl, rfl⟩ := tg_i4 hs
      exact tg_vret hE dX2_advance_147
  · have hs := tg_f cc7 hs
    refine tg_aload_n C dX2_advance_57 rfl 0 rfl ?_
    refine tg_iconst (v := 0) C dX2_advance_58 (by decide) ?_
    refine tg_put (ws' := (tw_R D r0 e0 e1 e2 x0 x0 r_fault r_length 0 vv5 r_next r_number r_dice r_bt r_gt d_pips d_many d_berths d_goal x_text)) C V cfX2 0 rfl 4 (by decide) wm_127 rfl rfl rfl (Nat.le_of_ble_eq_true rfl) rfl dX2_advance_59 ?_
    refine tg_aload_n C dX2_advance_62 rfl 0 rfl ?_
    refine tg_aload_n C dX2_advance_63 rfl 0 rfl ?_
    refine tg_get (v := .int r_length) C cfX2 0 rfl 3 (by decide) wm_126 rfl dX2_advance_64 ?_
    refine tg_put (ws' := (tw_R D r0 e0 e1 e2 x0 x0 r_fault r_length 0 vv5 r_length r_number r_dice r_bt r_gt d_pips d_many d_berths d_goal x_text)) C V cfX2 0 rfl 6 (by decide) wm_129 rfl rfl rfl (Nat.le_of_ble_eq_true rfl) rfl dX2_advance_67 ?_
    refine tg_goto (tgt := 147) C dX2_advance_70 (by decide) ?_
    obtain ⟨rfl, rfl, rfl, rfl⟩ := tg_i4 hs
    exact tg_vret hE dX2_advance_147
set_option maxHeartbeats 2000000 in
set_option maxRecDepth 20000 in
theorem kX2_advance (l : Launch) (D : tg_D) (r0 e0 e1 e2 x0 : Nat) (r_fault : Int32) (r_length : Int32) (r_kind : Int32) (r_start : Int32) (r_next : Int32) (r_number : Int32) (r_dice : Int32) (r_bt : Int32) (r_gt : Int32) (d_pips : Nat → Int32) (d_many : Nat → Int32) (d_berths : Int32) (d_goal : Int32) (x_text : Nat → Int32) (q_r_kind : Int32) (q_r_start : Int32) (q_r_next : Int32) (q_r_number : Int32) (hs : fX2_advance r_length r_next r_number x_text = some (q_r_kind, q_r_start, q_r_next, q_r_number)) : Met l yX2_advance [Cond.code yX2_advance cX2_advance 1 none] (tg_rm 2 42) (tg_Pre D (tw_R D r0 e0 e1 e2 x0 x0 r_fault r_length r_kind r_start r_next r_number r_dice r_bt r_gt d_pips d_many d_berths d_goal x_text) [.ref r0]) (tg_Qe none D (tw_R D r0 e0 e1 e2 x0 x0 r_fault r_length q_r_kind q_r_start q_r_next q_r_number r_dice r_bt r_gt d_pips d_many d_berths d_goal x_text) (tg_Ad (tw_R D r0 e0 e1 e2 x0 x0 r_fault r_length r_kind r_start r_next r_number r_dice r_bt r_gt d_pips d_many d_berths d_goal x_text))) 0 0 (tg_Ad (tw_R D r0 e0 e1 e2 x0 x0 r_fault r_length r_kind r_start r_next r_number r_dice r_bt r_gt d_pips d_many d_berths d_goal x_text)) := tg_metEv (by decide) (Nat.le_of_ble_eq_true rfl) (fun X hl0 C V hE => vX2_advance l D r0 e0 e1 e2 x0 r_fault r_length r_kind r_start r_next r_number r_dice r_bt r_gt d_pips d_many d_berths d_goal x_text X hl0 C V q_r_kind q_r_start q_r_next q_r_number hs hE)
def fX2_isNumber (r_kind : Int32) (r_number : Int32) (p1 : Int32) (p2 : Int32) : Option (Int32) := if ¬ r_kind = 2 then (some 0) else (if r_number < p1 then (some 0) else (if p2 < r_number then (some 0) else (some 1)))
set_option maxHeartbeats 2000000 in
set_option maxRecDepth 20000 in
theorem vX2_isNumber (l : Launch) (D : tg_D) (r0 e0 e1 e2 x0 : Nat) (r_fault : Int32) (r_length : Int32) (r_kind : Int32) (r_start : Int32) (r_next : Int32) (r_number : Int32) (r_dice : Int32) (r_bt : Int32) (r_gt : Int32) (d_pips : Nat → Int32) (d_many : Nat → Int32) (d_berths : Int32) (d_goal : Int32) (x_text : Nat → Int32) (p1 : Int32) (p2 : Int32) (X : tg_X) (hl0 : tg_l X = l) (C : tg_C X D 3 cX2_isNumber RX2 0 0 0 0) (r : Int32) (hs : fX2_isNumber r_kind r_number p1 p2 = some r) (hE : tg_Ei X D 0 0 cX2_isNumber .boolean r (tw_R D r0 e0 e1 e2 x0 x0 r_fault r_length r_kind r_start r_next r_number r_dice r_bt r_gt d_pips d_many d_berths d_goal x_text)) : tg_G X D 3 0 0 (tw_R D r0 e0 e1 e2 x0 x0 r_fault r_length r_kind r_start r_next r_number r_dice r_bt r_gt d_pips d_many d_berths d_goal x_text) [(0, .ref r0), (1, .int p1), (2, .int p2)] 0 [] := by
  unfold fX2_isNumber at hs
  refine tg_aload_n C dX2_isNumber_0 rfl 0 rfl ?_
  refine tg_get (v := .int r_kind) C cfX2 0 rfl 4 (by decide) wm_127 rfl dX2_isNumber_1 ?_
  refine tg_iconst (v := 2) C dX2_isNumber_4 (by decide) ?_
  refine tg_icmp_ne (tgt := 28) C dX2_isNumber_5 (by decide) (fun cc1 => ?_) (fun cc1 => ?_)
  · have hs := tg_t cc1 hs
    refine tg_iconst (v := 0) C dX2_isNumber_28 (by decide) ?_
    obtain rfl := Option.some.inj hs
    exact tg_iret hE rfl dX2_isNumber_29
  · have hs := tg_nf cc1 hs
    refine tg_aload_n C dX2_isNumber_8 rfl 0 rfl ?_
    refine tg_get (v := .int r_number) C cfX2 0 rfl 7 (by decide) wm_130 rfl dX2_isNumber_9 ?_
    refine tg_iload_n C dX2_isNumber_12 rfl 1 rfl ?_
    refine tg_icmp_lt (tgt := 28) C dX2_isNumber_13 (by decide) (fun cc2 => ?_) (fun cc2 => ?_)
    · have hs := tg_t cc2 hs
      refine tg_iconst (v := 0) C dX2_isNumber_28 (by decide) ?_
      obtain rfl := Option.some.inj hs
      exact tg_iret hE rfl dX2_isNumber_29
    · have hs := tg_f cc2 hs
      refine tg_aload_n C dX2_isNumber_16 rfl 0 rfl ?_
      refine tg_get (v := .int r_number) C cfX2 0 rfl 7 (by decide) wm_130 rfl dX2_isNumber_17 ?_
      refine tg_iload_n C dX2_isNumber_20 rfl 2 rfl ?_
      refine tg_icmp_gt (tgt := 28) C dX2_isNumber_21 (by decide) (fun cc3 => ?_) (fun cc3 => ?_)
      · have hs := tg_t cc3 hs
        refine tg_iconst (v := 0) C dX2_isNumber_28 (by decide) ?_
        obtain rfl := Option.some.inj hs
        exact tg_iret hE rfl dX2_isNumber_29
      · have hs := tg_f cc3 hs
        refine tg_iconst (v := 1) C dX2_isNumber_24 (by decide) ?_
        refine tg_goto (tgt := 29) C dX2_isNumber_25 (by decide) ?_
        obtain rfl := Option.some.inj hs
        exact tg_iret hE rfl dX2_isNumber_29
set_option maxHeartbeats 2000000 in
set_option maxRecDepth 20000 in
theorem kX2_isNumber (l : Launch) (D : tg_D) (r0 e0 e1 e2 x0 : Nat) (r_fault : Int32) (r_length : Int32) (r_kind : Int32) (r_start : Int32) (r_next : Int32) (r_number : Int32) (r_dice : Int32) (r_bt : Int32) (r_gt : Int32) (d_pips : Nat → Int32) (d_many : Nat → Int32) (d_berths : Int32) (d_goal : Int32) (x_text : Nat → Int32) (p1 : Int32) (p2 : Int32) (r : Int32) (hs : fX2_isNumber r_kind r_number p1 p2 = some r) : Met l yX2_isNumber [Cond.code yX2_isNumber cX2_isNumber 3 (some .boolean)] (tg_rm 0 0) (tg_Pre D (tw_R D r0 e0 e1 e2 x0 x0 r_fault r_length r_kind r_start r_next r_number r_dice r_bt r_gt d_pips d_many d_berths d_goal x_text) [.ref r0, .int p1, .int p2]) (vp_Si (fun r' => r' = r)) 0 0 (fun _ => False) := tg_metI (by decide) (Nat.le_of_ble_eq_true rfl) (fun X hl0 C hE => vX2_isNumber l D r0 e0 e1 e2 x0 r_fault r_length r_kind r_start r_next r_number r_dice r_bt r_gt d_pips d_many d_berths d_goal x_text p1 p2 X hl0 C r hs hE)
def fX2_refuse (r_fault : Int32) (r_start : Int32) : Option (Int32) := if ¬ r_fault = (-9) then (some r_fault) else (some r_start)
set_option maxHeartbeats 2000000 in
set_option maxRecDepth 20000 in
theorem vX2_refuse (l : Launch) (D : tg_D) (r0 e0 e1 e2 x0 : Nat) (r_fault : Int32) (r_length : Int32) (r_kind : Int32) (r_start : Int32) (r_next : Int32) (r_number : Int32) (r_dice : Int32) (r_bt : Int32) (r_gt : Int32) (d_pips : Nat → Int32) (d_many : Nat → Int32) (d_berths : Int32) (d_goal : Int32) (x_text : Nat → Int32) (X : tg_X) (hl0 : tg_l X = l) (C : tg_C X D 1 cX2_refuse RX2 0 0 0 0) (V : tg_V X) (q_r_fault : Int32) (hs : fX2_refuse r_fault r_start = some q_r_fault) (hE : tg_Ev X D 0 0 cX2_refuse (tw_R D r0 e0 e1 e2 x0 x0 q_r_fault r_length r_kind r_start r_next r_number r_dice r_bt r_gt d_pips d_many d_berths d_goal x_text)) : tg_G X D 1 0 0 (tw_R D r0 e0 e1 e2 x0 x0 r_fault r_length r_kind r_start r_next r_number r_dice r_bt r_gt d_pips d_many d_berths d_goal x_text) [(0, .ref r0)] 0 [] := by
  unfold fX2_refuse at hs
  refine tg_aload_n C dX2_refuse_0 rfl 0 rfl ?_
  refine tg_get (v := .int r_fault) C cfX2 0 rfl 1 (by decide) wm_123 rfl dX2_refuse_1 ?_
  refine tg_bipush (v := (-9)) C dX2_refuse_4 (by decide) ?_
  refine tg_icmp_ne (tgt := 17) C dX2_refuse_6 (by decide) (fun cc1 => ?_) (fun cc1 => ?_)
  · have hs := tg_t cc1 hs
    obtain rfl := Option.some.inj hs
    exact tg_vret hE dX2_refuse_17
  · have hs := tg_nf cc1 hs
    refine tg_aload_n C dX2_refuse_9 rfl 0 rfl ?_
    refine tg_aload_n C dX2_refuse_10 rfl 0 rfl ?_
    refine tg_get (v := .int r_start) C cfX2 0 rfl 5 (by decide) wm_128 rfl dX2_refuse_11 ?_
    refine tg_put (ws' := (tw_R D r0 e0 e1 e2 x0 x0 r_start r_length r_kind r_start r_next r_number r_dice r_bt r_gt d_pips d_many d_berths d_goal x_text)) C V cfX2 0 rfl 1 (by decide) wm_123 rfl rfl rfl (Nat.le_of_ble_eq_true rfl) rfl dX2_refuse_14 ?_
    obtain rfl := Option.some.inj hs
    exact tg_vret hE dX2_refuse_17
set_option maxHeartbeats 2000000 in
set_option maxRecDepth 20000 in
theorem kX2_refuse (l : Launch) (D : tg_D) (r0 e0 e1 e2 x0 : Nat) (r_fault : Int32) (r_length : Int32) (r_kind : Int32) (r_start : Int32) (r_next : Int32) (r_number : Int32) (r_dice : Int32) (r_bt : Int32) (r_gt : Int32) (d_pips : Nat → Int32) (d_many : Nat → Int32) (d_berths : Int32) (d_goal : Int32) (x_text : Nat → Int32) (q_r_fault : Int32) (hs : fX2_refuse r_fault r_start = some q_r_fault) : Met l yX2_refuse [Cond.code yX2_refuse cX2_refuse 1 none] (tg_rm 0 0) (tg_Pre D (tw_R D r0 e0 e1 e2 x0 x0 r_fault r_length r_kind r_start r_next r_number r_dice r_bt r_gt d_pips d_many d_berths d_goal x_text) [.ref r0]) (tg_Qe none D (tw_R D r0 e0 e1 e2 x0 x0 q_r_fault r_length r_kind r_start r_next r_number r_dice r_bt r_gt d_pips d_many d_berths d_goal x_text) (tg_Ad (tw_R D r0 e0 e1 e2 x0 x0 r_fault r_length r_kind r_start r_next r_number r_dice r_bt r_gt d_pips d_many d_berths d_goal x_text))) 0 0 (tg_Ad (tw_R D r0 e0 e1 e2 x0 x0 r_fault r_length r_kind r_start r_next r_number r_dice r_bt r_gt d_pips d_many d_berths d_goal x_text)) := tg_metEv (by decide) (Nat.le_of_ble_eq_true rfl) (fun X hl0 C V hE => vX2_refuse l D r0 e0 e1 e2 x0 r_fault r_length r_kind r_start r_next r_number r_dice r_bt r_gt d_pips d_many d_berths d_goal x_text X hl0 C V q_r_fault hs hE)
