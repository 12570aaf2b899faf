def fX2_readDie_L6 (r_length : Int32) (r_dice : Int32) (x_text : Nat → Int32) : Nat → Int32 → Int32 → Int32 → Int32 → (Nat → Int32) → Int32 → Option (Int32 × Int32 × Int32 × Int32 × (Nat → Int32) × Int32)
  | 0, _, _, _, _, _, _ => none
  | fuel + 1, r_kind, r_start, r_next, r_number, d_pips, n1 => if 6 ≤ n1 then (some (r_kind, r_start, r_next, r_number, d_pips, n1)) else (tg_b1 (fX2_isNumber r_kind r_number 1 9) fun rr7 => if rr7 = 0 then (some (r_kind, r_start, r_next, r_number, d_pips, n1)) else (tg_ck ((r_dice * 6) + n1) 18 <| tg_nm (upd d_pips (Int32.toNatClampNeg ((r_dice * 6) + n1)) r_number) fun gg10 => tg_b4 (fX2_advance r_length r_next r_number x_text) fun vv12 vv13 vv14 vv15 => tg_nm (n1 + 1) fun vv17 => fX2_readDie_L6 r_length r_dice x_text fuel vv12 vv13 vv14 vv15 gg10 vv17))
def fX2_readDie (r_fault : Int32) (r_length : Int32) (r_next : Int32) (r_number : Int32) (r_dice : Int32) (d_pips : Nat → Int32) (d_many : Nat → Int32) (x_text : Nat → Int32) : Option (Int32 × Int32 × Int32 × Int32 × Int32 × Int32 × (Nat → Int32) × (Nat → Int32)) := tg_b4 (fX2_advance r_length r_next r_number x_text) fun vv1 vv2 vv3 vv4 => tg_b6 (fX2_readDie_L6 r_length r_dice x_text 400 vv1 vv2 vv3 vv4 d_pips 0) fun vv18 vv19 vv20 vv21 vv22 vv23 => tg_b1 (if ¬ vv23 = 0 then (some r_fault) else (tg_b1 (fX2_refuse r_fault vv19) fun vv28 => some vv28)) fun (vv26 : Int32) => tg_ck r_dice 3 <| tg_nm (upd d_many (Int32.toNatClampNeg r_dice) vv23) fun gg30 => tg_nm (r_dice + 1) fun vv32 => some (vv26, vv18, vv19, vv20, vv21, vv32, vv22, gg30)
set_option maxHeartbeats 2000000 in
set_option maxRecDepth 20000 in
theorem vX2_readDie_L6 (l : Launch) (D : tg_D) (r0 e0 e1 e2 x0 : Nat) (r_fault : Int32) (r_length : Int32) (r_dice : Int32) (r_bt : Int32) (r_gt : Int32) (d_many : Nat → Int32) (d_berths : Int32) (d_goal : Int32) (x_text : Nat → Int32) (X : tg_X) (hl0 : tg_l X = l) (C : tg_C X D 2 cX2_readDie RX2 3 62 0 0) (V : tg_V X) (o_r_kind : Int32) (o_r_start : Int32) (o_r_next : Int32) (o_r_number : Int32) (o_d_pips : Nat → Int32) (o_n1 : Int32) : ∀ (fuel : Nat) (r_kind : Int32) (r_start : Int32) (r_next : Int32) (r_number : Int32) (d_pips : Nat → Int32) (n1 : Int32), fX2_readDie_L6 r_length r_dice x_text fuel r_kind r_start r_next r_number d_pips n1 = some (o_r_kind, o_r_start, o_r_next, o_r_number, o_d_pips, o_n1) → tg_G X D 2 0 0 (tw_R D r0 e0 e1 e2 x0 x0 r_fault r_length o_r_kind o_r_start o_r_next o_r_number r_dice r_bt r_gt o_d_pips d_many d_berths d_goal x_text) [(0, .ref r0), (1, .int o_n1)] 53 [] → tg_G X D 2 0 0 (tw_R D r0 e0 e1 e2 x0 x0 r_fault r_length r_kind r_start r_next r_number r_dice r_bt r_gt d_pips d_many d_berths d_goal x_text) [(0, .ref r0), (1, .int n1)] 6 [] := by
  intro fuel
  induction fuel with
  | zero =>
    intro r_kind r_start r_next r_number d_pips n1 hs _
    rw [fX2_readDie_L6] at hs
    cases hs
  | succ fuel ih =>
    intro r_kind r_start r_next r_number d_pips n1 hs J
    rw [fX2_readDie_L6] at hs
    refine tg_iload_n C dX2_readDie_6 rfl 1 rfl ?_
    refine tg_bipush (v := 6) C dX2_readDie_7 (by decide) ?_
    refine tg_icmp_ge (tgt := 53) C dX2_readDie_9 (by decide) (fun cc6 => ?_) (fun cc6 => ?_)
    · have hs := tg_t cc6 hs
      obtain ⟨rfl, rfl, rfl, rfl, rfl, rfl⟩ := tg_i6 hs
      exact J
    · have hs := tg_f cc6 hs
      refine tg_aload_n C dX2_readDie_12 rfl 0 rfl ?_
      refine tg_iconst (v := 1) C dX2_readDie_13 (by decide) ?_
      refine tg_bipush (v := 9) C dX2_readDie_14 (by decide) ?_
      obtain ⟨rr7, ee8, hs⟩ := tg_b1_e hs
      refine tg_pVs (As := [.int 1, .int 9]) (rest := []) C hl0 (kX2_isNumber l D r0 e0 e1 e2 x0 r_fault r_length r_kind r_start r_next r_number r_dice r_bt r_gt d_pips d_many d_berths d_goal x_text 1 9 rr7 ee8) wm_324 meX2_isNumber (by decide) rfl rfl rfl rfl (Nat.le_of_ble_eq_true rfl) dX2_readDie_16 ?_
      refine tg_if_eq (tgt := 53) C dX2_readDie_19 (by decide) (fun cc9 => ?_) (fun cc9 => ?_)
      · have hs := tg_t cc9 hs
        obtain ⟨rfl, rfl, rfl, rfl, rfl, rfl⟩ := tg_i6 hs
        exact J
      · have hs := tg_f cc9 hs
        refine tg_aload_n C dX2_readDie_22 rfl 0 rfl ?_
        refine tg_get (v := .ref e0) C cfX2 0 rfl 0 (by decide) wm_121 rfl dX2_readDie_23 ?_
        refine tg_get (v := .ref e1) C cfX3 1 rfl 0 (by decide) wm_90 rfl dX2_readDie_26 ?_
        refine tg_aload_n C dX2_readDie_29 rfl 0 rfl ?_
        refine tg_get (v := .int r_dice) C cfX2 0 rfl 8 (by decide) wm_131 rfl dX2_readDie_30 ?_
        refine tg_bipush (v := 6) C dX2_readDie_33 (by decide) ?_
        refine tg_imul C dX2_readDie_35 ?_
        refine tg_iload_n C dX2_readDie_36 rfl 1 rfl ?_
        refine tg_iadd C dX2_readDie_37 ?_
        refine tg_aload_n C dX2_readDie_38 rfl 0 rfl ?_
        refine tg_get (v := .int r_number) C cfX2 0 rfl 7 (by decide) wm_130 rfl dX2_readDie_39 ?_
        obtain ⟨hh11, hs⟩ := tg_ck_e hs
        obtain ⟨gg10, egg10, hs⟩ := tg_nm_e hs
        refine tg_iast (ws' := (tw_R D r0 e0 e1 e2 x0 x0 r_fault r_length r_kind r_start r_next r_number r_dice r_bt r_gt gg10 d_many d_berths d_goal x_text)) C V 2 0 rfl rfl hh11 egg10 rfl dX2_readDie_42 ?_
        refine tg_aload_n C dX2_readDie_43 rfl 0 rfl ?_
        obtain ⟨vv12, vv13, vv14, vv15, ee16, hs⟩ := tg_b4_e hs
        refine tg_eVs (ws' := (tw_R D r0 e0 e1 e2 x0 x0 r_fault r_length vv12 vv13 vv14 vv15 r_dice r_bt r_gt gg10 d_many d_berths d_goal x_text)) (As := []) (rest := []) C V hl0 (kX2_advance l D r0 e0 e1 e2 x0 r_fault r_length r_kind r_start r_next r_number r_dice r_bt r_gt gg10 d_many d_berths d_goal x_text vv12 vv13 vv14 vv15 ee16) wm_296 meX2_advance (by decide) rfl rfl rfl rfl (Nat.le_of_ble_eq_true rfl) rfl dX2_readDie_44 ?_
        obtain ⟨vv17, evv17, hs⟩ := tg_nm_e hs
        refine tg_iinc (v := vv17) (lv' := [(1, .int vv17), (0, .ref r0)]) C dX2_readDie_47 1 rfl (by rw [evv17]; rfl) (by decide) rfl ?_
        refine tg_goto (tgt := 6) C dX2_readDie_50 (by decide) ?_
        refine tg_lsub [1, 0] rfl ?_
        exact ih vv12 vv13 vv14 vv15 gg10 vv17 hs J
set_option maxHeartbeats 2000000 in
set_option maxRecDepth 20000 in
theorem vX2_readDie (l : Launch) (D : tg_D) (r0 e0 e1 e2 x0 : Nat) (r_fault : Int32) (r_length : Int32) (r_kind : Int32) (r_start : Int32) (r_next : Int32) (r_number : Int32) (r_dice : Int32) (r_bt : Int32) (r_gt : Int32) (d_pips : Nat → Int32) (d_many : Nat → Int32) (d_berths : Int32) (d_goal : Int32) (x_text : Nat → Int32) (X : tg_X) (hl0 : tg_l X = l) (C : tg_C X D 2 cX2_readDie RX2 3 62 0 0) (V : tg_V X) (q_r_fault : Int32) (q_r_kind : Int32) (q_r_start : Int32) (q_r_next : Int32) (q_r_number : Int32) (q_r_dice : Int32) (q_d_pips : Nat → Int32) (q_d_many : Nat → Int32) (hs : fX2_readDie r_fault r_length r_next r_number r_dice d_pips d_many x_text = some (q_r_fault, q_r_kind, q_r_start, q_r_next, q_r_number, q_r_dice, q_d_pips, q_d_many)) (hE : tg_Ev X D 0 0 cX2_readDie (tw_R D r0 e0 e1 e2 x0 x0 q_r_fault r_length q_r_kind q_r_start q_r_next q_r_number q_r_dice r_bt r_gt q_d_pips q_d_many d_berths d_goal x_text)) : tg_G X D 2 0 0 (tw_R D r0 e0 e1 e2 x0 x0 r_fault r_length r_kind r_start r_next r_number r_dice r_bt r_gt d_pips d_many d_berths d_goal x_text) [(0, .ref r0)] 0 [] := by
  unfold fX2_readDie at hs
  refine tg_aload_n C dX2_readDie_0 rfl 0 rfl ?_
  obtain ⟨vv1, vv2, vv3, vv4, ee5, hs⟩ := tg_b4_e hs
  refine tg_eVs (ws' := (tw_R D r0 e0 e1 e2 x0 x0 r_fault r_length vv1 vv2 vv3 vv4 r_dice r_bt r_gt d_pips d_many d_berths d_goal x_text)) (As := []) (rest := []) C V hl0 (kX2_advance l D r0 e0 e1 e2 x0 r_fault r_length r_kind r_start r_next r_number r_dice r_bt r_gt d_pips d_many d_berths d_goal x_text vv1 vv2 vv3 vv4 ee5) wm_296 meX2_advance (by decide) rfl rfl rfl rfl (Nat.le_of_ble_eq_true rfl) rfl dX2_readDie_1 ?_
  refine tg_iconst (v := 0) C dX2_readDie_4 (by decide) ?_
  refine tg_istore_n (lv' := [(1, .int 0), (0, .ref r0)]) C dX2_readDie_5 rfl (by decide) rfl ?_
  refine tg_lsub [1, 0] rfl ?_
  obtain ⟨vv18, vv19, vv20, vv21, vv22, vv23, ee24, hs⟩ := tg_b6_e hs
  refine vX2_readDie_L6 l D r0 e0 e1 e2 x0 r_fault r_length r_dice r_bt r_gt d_many d_berths d_goal x_text X hl0 C V vv18 vv19 vv20 vv21 vv22 vv23 400 vv1 vv2 vv3 vv4 d_pips 0 ee24 ?_
  refine tg_iload_n C dX2_readDie_53 rfl 1 rfl ?_
  obtain ⟨vv26, ee33, hs⟩ := tg_b1_e hs
  have JJ27 : tg_G X D 2 0 0 (tw_R D r0 e0 e1 e2 x0 x0 vv26 r_length vv18 vv19 vv20 vv21 r_dice r_bt r_gt vv22 d_many d_berths d_goal x_text) [(0, .ref r0), (1, .int vv23)] 61 [] := by
    refine tg_aload_n C dX2_readDie_61 rfl 0 rfl ?_
    refine tg_get (v := .ref e0) C cfX2 0 rfl 0 (by decide) wm_121 rfl dX2_readDie_62 ?_
    refine tg_get (v := .ref e2) C cfX3 1 rfl 1 (by decide) wm_93 rfl dX2_readDie_65 ?_
    refine tg_aload_n C dX2_readDie_68 rfl 0 rfl ?_
    refine tg_get (v := .int r_dice) C cfX2 0 rfl 8 (by decide) wm_131 rfl dX2_readDie_69 ?_
    refine tg_iload_n C dX2_readDie_72 rfl 1 rfl ?_
    obtain ⟨hh31, hs⟩ := tg_ck_e hs
    obtain ⟨gg30, egg30, hs⟩ := tg_nm_e hs
    refine tg_iast (ws' := (tw_R D r0 e0 e1 e2 x0 x0 vv26 r_length vv18 vv19 vv20 vv21 r_dice r_bt r_gt vv22 gg30 d_berths d_goal x_text)) C V 3 0 rfl rfl hh31 egg30 rfl dX2_readDie_73 ?_
    refine tg_aload_n C dX2_readDie_74 rfl 0 rfl ?_
    refine tg_dup C dX2_readDie_75 rfl ?_
    refine tg_get (v := .int r_dice) C cfX2 0 rfl 8 (by decide) wm_131 rfl dX2_readDie_76 ?_
    refine tg_iconst (v := 1) C dX2_readDie_79 (by decide) ?_
    refine tg_iadd C dX2_readDie_80 ?_
    obtain ⟨vv32, evv32, hs⟩ := tg_nm_e hs
    refine tg_topi evv32 ?_
    refine tg_put (ws' := (tw_R D r0 e0 e1 e2 x0 x0 vv26 r_length vv18 vv19 vv20 vv21 vv32 r_bt r_gt vv22 gg30 d_berths d_goal x_text)) C V cfX2 0 rfl 8 (by decide) wm_131 rfl rfl rfl (Nat.le_of_ble_eq_true rfl) rfl dX2_readDie_81 ?_
    obtain ⟨rfl, rfl, rfl, rfl, rfl, rfl, rfl, rfl⟩ := tg_i8 hs
    exact tg_vret hE dX2_readDie_84
  have hs := ee33
  clear ee33
  refine tg_if_ne (tgt := 61) C dX2_readDie_54 (by decide) (fun cc25 => ?_) (fun cc25 => ?_)
  · have hs := tg_t cc25 hs
    obtain rfl := Option.some.inj hs
    exact JJ27
  · have hs := tg_nf cc25 hs
    refine tg_aload_n C dX2_readDie_57 rfl 0 rfl ?_
    obtain ⟨vv28, ee29, hs⟩ := tg_b1_e hs
    refine tg_eVs (ws' := (tw_R D r0 e0 e1 e2 x0 x0 vv28 r_length vv18 vv19 vv20 vv21 r_dice r_bt r_gt vv22 d_many d_berths d_goal x_text)) (As := []) (rest := []) C V hl0 (kX2_refuse l D r0 e0 e1 e2 x0 r_fault r_length vv18 vv19 vv20 vv21 r_dice r_bt r_gt vv22 d_many d_berths d_goal x_text vv28 ee29) wm_328 meX2_refuse (by decide) rfl rfl rfl rfl (Nat.le_of_ble_eq_true rfl) rfl dX2_readDie_58 ?_
    obtain rfl := Option.some.inj hs
    exact JJ27
set_option maxHeartbeats 2000000 in
set_option maxRecDepth 20000 in
theorem kX2_readDie (l : Launch) (D : tg_D) (r0 e0 e1 e2 x0 : Nat) (r_fault : Int32) (r_length : Int32) (r_kind : Int32) (r_start : Int32) (r_next : Int32) (r_number : Int32) (r_dice : Int32) (r_bt : Int32) (r_gt : Int32) (d_pips : Nat → Int32) (d_many : Nat → Int32) (d_berths : Int32) (d_goal : Int32) (x_text : Nat → Int32) (q_r_fault : Int32) (q_r_kind : Int32) (q_r_start : Int32) (q_r_next : Int32) (q_r_number : Int32) (q_r_dice : Int32) (q_d_pips : Nat → Int32) (q_d_many : Nat → Int32) (hs : fX2_readDie r_fault r_length r_next r_number r_dice d_pips d_many x_text = some (q_r_fault, q_r_kind, q_r_start, q_r_next, q_r_number, q_r_dice, q_d_pips, q_d_many)) : Met l yX2_readDie [Cond.code yX2_readDie cX2_readDie 2 none] (tg_rm 3 62) (tg_Pre D (tw_R D r0 e0 e1 e2 x0 x0 r_fault r_length r_kind r_start r_next r_number r_dice r_bt r_gt d_pips d_many d_berths d_goal x_text) [.ref r0]) (tg_Qe none D (tw_R D r0 e0 e1 e2 x0 x0 q_r_fault r_length q_r_kind q_r_start q_r_next q_r_number q_r_dice r_bt r_gt q_d_pips q_d_many d_berths d_goal x_text) (tg_Ad (tw_R D r0 e0 e1 e2 x0 x0 r_fault r_length r_kind r_start r_next r_number r_dice r_bt r_gt d_pips d_many d_berths d_goal x_text))) 0 0 (tg_Ad (tw_R D r0 e0 e1 e2 x0 x0 r_fault r_length r_kind r_start r_next r_number r_dice r_bt r_gt d_pips d_many d_berths d_goal x_text)) := tg_metEv (by decide) (Nat.le_of_ble_eq_true rfl) (fun X hl0 C V hE => vX2_readDie l D r0 e0 e1 e2 x0 r_fault r_length r_kind r_start r_next r_number r_dice r_bt r_gt d_pips d_many d_berths d_goal x_text X hl0 C V q_r_fault q_r_kind q_r_start q_r_next q_r_number q_r_dice q_d_pips q_d_many hs hE)
def fX2_readNumber (r_fault : Int32) (r_length : Int32) (r_next : Int32) (r_number : Int32) (x_text : Nat → Int32) (p1 : Int32) (p2 : Int32) : Option (Int32 × Int32 × Int32 × Int32 × Int32 × Int32) := tg_b4 (fX2_advance r_length r_next r_number x_text) fun vv1 vv2 vv3 vv4 => tg_b1 (fX2_isNumber vv1 vv4 p1 p2) fun rr6 => if ¬ rr6 = 0 then (tg_b4 (fX2_advance r_length vv3 vv4 x_text) fun vv9 vv10 vv11 vv12 => some (vv4, r_fault, vv9, vv10, vv11, vv12)) else (tg_b1 (fX2_refuse r_fault vv2) fun vv14 => some (p1, vv14, vv1, vv2, vv3, vv4))
set_option maxHeartbeats 2000000 in
set_option maxRecDepth 20000 in
theorem vX2_readNumber (l : Launch) (D : tg_D) (r0 e0 e1 e2 x0 : Nat) (r_fault : Int32) (r_length : Int32) (r_kind : Int32) (r_start : Int32) (r_next : Int32) (r_number : Int32) (r_dice : Int32) (r_bt : Int32) (r_gt : Int32) (d_pips : Nat → Int32) (d_many : Nat → Int32) (d_berths : Int32) (d_goal : Int32) (x_text : Nat → Int32) (p1 : Int32) (p2 : Int32) (X : tg_X) (hl0 : tg_l X = l) (C : tg_C X D 4 cX2_readNumber RX2 3 62 0 0) (V : tg_V X) (r : Int32) (q_r_fault : Int32) (q_r_kind : Int32) (q_r_start : Int32) (q_r_next : Int32) (q_r_number : Int32) (hs : fX2_readNumber r_fault r_length r_next r_number x_text p1 p2 = some (r, q_r_fault, q_r_kind, q_r_start, q_r_next, q_r_number)) (hE : tg_Ei X D 0 0 cX2_readNumber .int r (tw_R D r0 e0 e1 e2 x0 x0 q_r_fault r_length q_r_kind q_r_start q_r_next q_r_number r_dice r_bt r_gt d_pips d_many d_berths d_goal x_text)) : tg_G X D 4 0 0 (tw_R D r0 e0 e1 e2 x0 x0 r_fault r_length r_kind r_start r_next r_number r_dice r_bt r_gt d_pips d_many d_berths d_goal x_text) [(0, .ref r0), (1, .int p1), (2, .int p2)] 0 [] := by
  unfold fX2_readNumber at hs
  refine tg_aload_n C dX2_readNumber_0 rfl 0 rfl ?_
  obtain ⟨vv1, vv2, vv3, vv4, ee5, hs⟩ := tg_b4_e hs
  refine tg_eVs (ws' := (tw_R D r0 e0 e1 e2 x0 x0 r_fault r_length vv1 vv2 vv3 vv4 r_dice r_bt r_gt d_pips d_many d_berths d_goal x_text)) (As := []) (rest := []) C V hl0 (kX2_advance l D r0 e0 e1 e2 x0 r_fault r_length r_kind r_start r_next r_number r_dice r_bt r_gt d_pips d_many d_berths d_goal x_text vv1 vv2 vv3 vv4 ee5) wm_296 meX2_advance (by decide) rfl rfl rfl rfl (Nat.le_of_ble_eq_true rfl) rfl dX2_readNumber_1 ?_
  refine tg_aload_n C dX2_readNumber_4 rfl 0 rfl ?_
  refine tg_iload_n C dX2_readNumber_5 rfl 1 rfl ?_
  refine tg_iload_n C dX2_readNumber_6 rfl 2 rfl ?_
  obtain ⟨rr6, ee7, hs⟩ := tg_b1_e hs
  refine tg_pVs (As := [.int p1, .int p2]) (rest := []) C hl0 (kX2_isNumber l D r0 e0 e1 e2 x0 r_fault r_length vv1 vv2 vv3 vv4 r_dice r_bt r_gt d_pips d_many d_berths d_goal x_text p1 p2 rr6 ee7) wm_324 meX2_isNumber (by decide) rfl rfl rfl rfl (Nat.le_of_ble_eq_true rfl) dX2_readNumber_7 ?_
  refine tg_if_ne (tgt := 19) C dX2_readNumber_10 (by decide) (fun cc8 => ?_) (fun cc8 => ?_)
  · have hs := tg_t cc8 hs
    refine tg_aload_n C dX2_readNumber_19 rfl 0 rfl ?_
    refine tg_get (v := .int vv4) C cfX2 0 rfl 7 (by decide) wm_130 rfl dX2_readNumber_20 ?_
    refine tg_istore_n (lv' := [(3, .int vv4), (0, .ref r0), (1, .int p1), (2, .int p2)]) C dX2_readNumber_23 rfl (by decide) rfl ?_
    refine tg_aload_n C dX2_readNumber_24 rfl 1 rfl ?_
    obtain ⟨vv9, vv10, vv11, vv12, ee13, hs⟩ := tg_b4_e hs
    refine tg_eVs (ws' := (tw_R D r0 e0 e1 e2 x0 x0 r_fault r_length vv9 vv10 vv11 vv12 r_dice r_bt r_gt d_pips d_many d_berths d_goal x_text)) (As := []) (rest := []) C V hl0 (kX2_advance l D r0 e0 e1 e2 x0 r_fault r_length vv1 vv2 vv3 vv4 r_dice r_bt r_gt d_pips d_many d_berths d_goal x_text vv9 vv10 vv11 vv12 ee13) wm_296 meX2_advance (by decide) rfl rfl rfl rfl (Nat.le_of_ble_eq_true rfl) rfl dX2_readNumber_25 ?_
    refine tg_iload_n C dX2_readNumber_28 rfl 0 rfl ?_
    obtain ⟨rfl, rfl, rfl, rfl, rfl, rfl⟩ := tg_i6 hs
    exact tg_iret hE rfl dX2_readNumber_29
  · have hs := tg_nf cc8 hs
    refine tg_aload_n C dX2_readNumber_13 rfl 0 rfl ?_
    obtain ⟨vv14, ee15, hs⟩ := tg_b1_e hs
    refine tg_eVs (ws' := (tw_R D r0 e0 e1 e2 x0 x0 vv14 r_length vv1 vv2 vv3 vv4 r_dice r_bt r_gt d_pips d_many d_berths d_goal x_text)) (As := []) (rest := []) C V hl0 (kX2_refuse l D r0 e0 e1 e2 x0 r_fault r_length vv1 vv2 vv3 vv4 r_dice r_bt r_gt d_pips d_many d_berths d_goal x_text vv14 ee15) wm_328 meX2_refuse (by decide) rfl rfl rfl rfl (Nat.le_of_ble_eq_true rfl) rfl dX2_readNumber_14 ?_
    refine tg_iload_n C dX2_readNumber_17 rfl 1 rfl ?_
    obtain ⟨rfl, rfl, rfl, rfl, rfl, rfl⟩ := tg_i6 hs
    exact tg_iret hE rfl dX2_readNumber_18
set_option maxHeartbeats 2000000 in
set_option maxRecDepth 20000 in
theorem kX2_readNumber (l : Launch) (D : tg_D) (r0 e0 e1 e2 x0 : Nat) (r_fault : Int32) (r_length : Int32) (r_kind : Int32) (r_start : Int32) (r_next : Int32) (r_number : Int32) (r_dice : Int32) (r_bt : Int32) (r_gt : Int32) (d_pips : Nat → Int32) (d_many : Nat → Int32) (d_berths : Int32) (d_goal : Int32) (x_text : Nat → Int32) (p1 : Int32) (p2 : Int32) (r : Int32) (q_r_fault : Int32) (q_r_kind : Int32) (q_r_start : Int32) (q_r_next : Int32) (q_r_number : Int32) (hs : fX2_readNumber r_fault r_length r_next r_number x_text p1 p2 = some (r, q_r_fault, q_r_kind, q_r_start, q_r_next, q_r_number)) : Met l yX2_readNumber [Cond.code yX2_readNumber cX2_readNumber 4 (some .int)] (tg_rm 3 62) (tg_Pre D (tw_R D r0 e0 e1 e2 x0 x0 r_fault r_length r_kind r_start r_next r_number r_dice r_bt r_gt d_pips d_many d_berths d_goal x_text) [.ref r0, .int p1, .int p2]) (tg_Qe (some (.int r)) D (tw_R D r0 e0 e1 e2 x0 x0 q_r_fault r_length q_r_kind q_r_start q_r_next q_r_number r_dice r_bt r_gt d_pips d_many d_berths d_goal x_text) (tg_Ad (tw_R D r0 e0 e1 e2 x0 x0 r_fault r_length r_kind r_start r_next r_number r_dice r_bt r_gt d_pips d_many d_berths d_goal x_text))) 0 0 (tg_Ad (tw_R D r0 e0 e1 e2 x0 x0 r_fault r_length r_kind r_start r_next r_number r_dice r_bt r_gt d_pips d_many d_berths d_goal x_text)) := tg_metEi (by decide) (Nat.le_of_ble_eq_true rfl) (fun X hl0 C V hE => vX2_readNumber l D r0 e0 e1 e2 x0 r_fault r_length r_kind r_start r_next r_number r_dice r_bt r_gt d_pips d_many d_berths d_goal x_text p1 p2 X hl0 C V r q_r_fault q_r_kind q_r_start q_r_next q_r_number hs hE)
def fX2_readStop (r_fault : Int32) (r_length : Int32) (r_kind : Int32) (r_start : Int32) (r_next : Int32) (r_number : Int32) (x_text : Nat → Int32) : Option (Int32 × Int32 × Int32 × Int32 × Int32) := if ¬ r_kind = 3 then (tg_b1 (fX2_refuse r_fault r_start) fun vv2 => some (vv2, r_kind, r_start, r_next, r_number)) else (tg_b4 (fX2_advance r_length r_next r_number x_text) fun vv4 vv5 vv6 vv7 => some (r_fault, vv4, vv5, vv6, vv7))
set_option maxHeartbeats 2000000 in
set_option maxRecDepth 20000 in
theorem vX2_readStop (l : Launch) (D : tg_D) (r0 e0 e1 e2 x0 : Nat) (r_fault : Int32) (r_length : Int32) (r_kind : Int32) (r_start : Int32) (r_next : Int32) (r_number : Int32) (r_dice : Int32) (r_bt : Int32) (r_gt : Int32) (d_pips : Nat → Int32) (d_many : Nat → Int32) (d_berths : Int32) (d_goal : Int32) (x_text : Nat → Int32) (X : tg_X) (hl0 : tg_l X = l) (C : tg_C X D 1 cX2_readStop RX2 3 62 0 0) (V : tg_V X) (q_r_fault : Int32) (q_r_kind : Int32) (q_r_start : Int32) (q_r_next : Int32) (q_r_number : Int32) (hs : fX2_readStop r_fault r_length r_kind r_start r_next r_number x_text = some (q_r_fault, q_r_kind, q_r_start, q_r_next, q_r_number)) (hE : tg_Ev X D 0 0 cX2_readStop (tw_R D r0 e0 e1 e2 x0 x0 q_r_fault r_length q_r_kind q_r_start q_r_next q_r_number r_dice r_bt r_gt d_pips d_many d_berths d_goal x_text)) : tg_G X D 1 0 0 (tw_R D r0 e0 e1 e2 x0 x0 r_fault r_length r_kind r_start r_next r_number r_dice r_bt r_gt d_pips d_many d_berths d_goal x_text) [(0, .ref r0)] 0 [] := by
  unfold fX2_readStop at hs
  refine tg_aload_n C dX2_readStop_0 rfl 0 rfl ?_
  refine tg_get (v := .int r_kind) C cfX2 0 rfl 4 (by decide) wm_127 rfl dX2_readStop_1 ?_
  refine tg_iconst (v := 3) C dX2_readStop_4 (by decide) ?_
  refine tg_icmp_ne (tgt := 15) C dX2_readStop_5 (by decide) (fun cc1 => ?_) (fun cc1 => ?_)
  · have hs := tg_t cc1 hs
    refine tg_aload_n C dX2_readStop_15 rfl 0 rfl ?_
    obtain ⟨vv2, ee3, hs⟩ := tg_b1_e hs
    refine tg_eVs (ws' := (tw_R D r0 e0 e1 e2 x0 x0 vv2 r_length r_kind r_start r_next r_number r_dice r_bt r_gt d_pips d_many d_berths d_goal x_text)) (As := []) (rest := []) C V hl0 (kX2_refuse l D r0 e0 e1 e2 x0 r_fault r_length r_kind r_start r_next r_number r_dice r_bt r_gt d_pips d_many d_berths d_goal x_text vv2 ee3) wm_328 meX2_refuse (by decide) rfl rfl rfl rfl (Nat.le_of_ble_eq_true rfl) rfl dX2_readStop_16 ?_
    obtain ⟨rfl, rfl, rfl, rfl, rfl⟩ := tg_i5 hs
    exact tg_vret hE dX2_readStop_19
  · have hs := tg_nf cc1 hs
    refine tg_aload_n C dX2_readStop_8 rfl 0 rfl ?_
    obtain ⟨vv4, vv5, vv6, vv7, ee8, hs⟩ := tg_b4_e hs
    refine tg_eVs (ws' := (tw_R D r0 e0 e1 e2 x0 x0 r_fault r_length vv4 vv5 vv6 vv7 r_dice r_bt r_gt d_pips d_many d_berths d_goal x_text)) (As := []) (rest := []) C V hl0 (kX2_advance l D r0 e0 e1 e2 x0 r_fault r_length r_kind r_start r_next r_number r_dice r_bt r_gt d_pips d_many d_berths d_goal x_text vv4 vv5 vv6 vv7 ee8) wm_296 meX2_advance (by decide) rfl rfl rfl rfl (Nat.le_of_ble_eq_true rfl) rfl dX2_readStop_9 ?_
    refine tg_goto (tgt := 19) C dX2_readStop_12 (by decide) ?_
    obtain ⟨rfl, rfl, rfl, rfl, rfl⟩ := tg_i5 hs
    exact tg_vret hE dX2_readStop_19
set_option maxHeartbeats 2000000 in
set_option maxRecDepth 20000 in
theorem kX2_readStop (l : Launch) (D : tg_D) (r0 e0 e1 e2 x0 : Nat) (r_fault : Int32) (r_length : Int32) (r_kind : Int32) (r_start : Int32) (r_next : Int32) (r_number : Int32) (r_dice : Int32) (r_bt : Int32) (r_gt : Int32) (d_pips : Nat → Int32) (d_many : Nat → Int32) (d_berths : Int32) (d_goal : Int32) (x_text : Nat → Int32) (q_r_fault : Int32) (q_r_kind : Int32) (q_r_start : Int32) (q_r_next : Int32) (q_r_number : Int32) (hs : fX2_readStop r_fault r_length r_kind r_start r_next r_number x_text = some (q_r_fault, q_r_kind, q_r_start, q_r_next, q_r_number)) : Met l yX2_readStop [Cond.code yX2_readStop cX2_readStop 1 none] (tg_rm 3 62) (tg_Pre D (tw_R D r0 e0 e1 e2 x0 x0 r_fault r_length r_kind r_start r_next r_number r_dice r_bt r_gt d_pips d_many d_berths d_goal x_text) [.ref r0]) (tg_Qe none D (tw_R D r0 e0 e1 e2 x0 x0 q_r_fault r_length q_r_kind q_r_start q_r_next q_r_number r_dice r_bt r_gt d_pips d_many d_berths d_goal x_text) (tg_Ad (tw_R D r0 e0 e1 e2 x0 x0 r_fault r_length r_kind r_start r_next r_number r_dice r_bt r_gt d_pips d_many d_berths d_goal x_text))) 0 0 (tg_Ad (tw_R D r0 e0 e1 e2 x0 x0 r_fault r_length r_kind r_start r_next r_number r_dice r_bt r_gt d_pips d_many d_berths d_goal x_text)) := tg_metEv (by decide) (Nat.le_of_ble_eq_true rfl) (fun X hl0 C V hE => vX2_readStop l D r0 e0 e1 e2 x0 r_fault r_length r_kind r_start r_next r_number r_dice r_bt r_gt d_pips d_many d_berths d_goal x_text X hl0 C V q_r_fault q_r_kind q_r_start q_r_next q_r_number hs hE)
def fX2_readItem (r_fault : Int32) (r_length : Int32) (r_kind : Int32) (r_start : Int32) (r_next : Int32) (r_number : Int32) (r_dice : Int32) (r_bt : Int32) (r_gt : Int32) (d_pips : Nat → Int32) (d_many : Nat → Int32) (d_berths : Int32) (d_goal : Int32) (x_text : Nat → Int32) : Option (Int32 × Int32 × Int32 × Int32 × Int32 × Int32 × Int32 × Int32 × (Nat → Int32) × (Nat → Int32) × Int32 × Int32) := tg_b1 (if ¬ r_kind = 1 then (some (32 : Int32)) else (if ¬ (r_next - r_start) = 1 then (some (32 : Int32)) else (tg_ck r_start 120 <| some (x_text (Int32.toNatClampNeg r_start))))) fun (vv2 : Int32) => if ¬ vv2 = 100 then (if ¬ vv2 = 98 then (if ¬ vv2 = 103 then (tg_b1 (fX2_refuse r_fault r_start) fun vv9 => some (vv9, r_kind, r_start, r_next, r_number, r_dice, r_bt, r_gt, d_pips, d_many, d_berths, d_goal)) else (if ¬ r_gt = 0 then (tg_b1 (fX2_refuse r_fault r_start) fun vv12 => some (vv12, r_kind, r_start, r_next, r_number, r_dice, r_bt, r_gt, d_pips, d_many, d_berths, d_goal)) else (tg_b6 (fX2_readNumber r_fault r_length r_next r_number x_text 1 9) fun rr14 vv15 vv16 vv17 vv18 vv19 => tg_b5 (fX2_readStop vv15 r_length vv16 vv17 vv18 vv19 x_text) fun vv21 vv22 vv23 vv24 vv25 => some (vv21, vv22, vv23, vv24, vv25, r_dice, r_bt, 1, d_pips, d_many, d_berths, rr14)))) else (if ¬ r_bt = 0 then (if ¬ vv2 = 103 then (tg_b1 (fX2_refuse r_fault r_start) fun vv29 => some (vv29, r_kind, r_start, r_next, r_number, r_dice, r_bt, r_gt, d_pips, d_many, d_berths, d_goal)) else (if ¬ r_gt = 0 then (tg_b1 (fX2_refuse r_fault r_start) fun vv32 => some (vv32, r_kind, r_start, r_next, r_number, r_dice, r_bt, r_gt, d_pips, d_many, d_berths, d_goal)) else (tg_b6 (fX2_readNumber r_fault r_length r_next r_number x_text 1 9) fun rr34 vv35 vv36 vv37 vv38 vv39 => tg_b5 (fX2_readStop vv35 r_length vv36 vv37 vv38 vv39 x_text) fun vv41 vv42 vv43 vv44 vv45 => some (vv41, vv42, vv43, vv44, vv45, r_dice, r_bt, 1, d_pips, d_many, d_berths, rr34)))) else (tg_b6 (fX2_readNumber r_fault r_length r_next r_number x_text 3 18) fun rr47 vv48 vv49 vv50 vv51 vv52 => tg_b5 (fX2_readStop vv48 r_length vv49 vv50 vv51 vv52 x_text) fun vv54 vv55 vv56 vv57 vv58 => some (vv54, vv55, vv56, vv57, vv58, r_dice, 1, r_gt, d_pips, d_many, rr47, d_goal)))) else (if 3 ≤ r_dice then (if ¬ vv2 = 98 then (if ¬ vv2 = 103 then (tg_b1 (fX2_refuse r_fault r_start) fun vv63 => some (vv63, r_kind, r_start, r_next, r_number, r_dice, r_bt, r_gt, d_pips, d_many, d_berths, d_goal)) else (if ¬ r_gt = 0 then (tg_b1 (fX2_refuse r_fault r_start) fun vv66 => some (vv66, r_kind, r_start, r_next, r_number, r_dice, r_bt, r_gt, d_pips, d_many, d_berths, d_goal)) else (tg_b6 (fX2_readNumber r_fault r_length r_next r_number x_text 1 9) fun rr68 vv69 vv70 vv71 vv72 vv73 => tg_b5 (fX2_readStop vv69 r_length vv70 vv71 vv72 vv73 x_text) fun vv75 vv76 vv77 vv78 vv79 => some (vv75, vv76, vv77, vv78, vv79, r_dice, r_bt, 1, d_pips, d_many, d_berths, rr68)))) else (if ¬ r_bt = 0 then (if ¬ vv2 = 103 then (tg_b1 (fX2_refuse r_fault r_start) fun vv83 => some (vv83, r_kind, r_start, r_next, r_number, r_dice, r_bt, r_gt, d_pips, d_many, d_berths, d_goal)) else (if ¬ r_gt = 0 then (tg_b1 (fX2_refuse r_fault r_start) fun vv86 => some (vv86, r_kind, r_start, r_next, r_number, r_dice, r_bt, r_gt, d_pips, d_many, d_berths, d_goal)) else (tg_b6 (fX2_readNumber r_fault r_length r_next r_number x_text 1 9) fun rr88 vv89 vv90 vv91 vv92 vv93 => tg_b5 (fX2_readStop vv89 r_length vv90 vv91 vv92 vv93 x_text) fun vv95 vv96 vv97 vv98 vv99 => some (vv95, vv96, vv97, vv98, vv99, r_dice, r_bt, 1, d_pips, d_many, d_berths, rr88)))) else (tg_b6 (fX2_readNumber r_fault r_length r_next r_number x_text 3 18) fun rr101 vv102 vv103 vv104 vv105 vv106 => tg_b5 (fX2_readStop vv102 r_length vv103 vv104 vv105 vv106 x_text) fun vv108 vv109 vv110 vv111 vv112 => some (vv108, vv109, vv110, vv111, vv112, r_dice, 1, r_gt, d_pips, d_many, rr101, d_goal)))) else (tg_b8 (fX2_readDie r_fault r_length r_next r_number r_dice d_pips d_many x_text) fun vv114 vv115 vv116 vv117 vv118 vv119 gg120 gg121 => tg_b5 (fX2_readStop vv114 r_length vv115 vv116 vv117 vv118 x_text) fun vv123 vv124 vv125 vv126 vv127 => some (vv123, vv124, vv125, vv126, vv127, vv119, r_bt, r_gt, gg120, gg121, d_berths, d_goal)))
set_option maxHeartbeats 2000000 in
set_option maxRecDepth 20000 in
theorem vX2_readItem (l : Launch) (D : tg_D) (r0 e0 e1 e2 x0 : Nat) (r_fault : Int32) (r_length : Int32) (r_kind : Int32) (r_start : Int32) (r_next : Int32) (r_number : Int32) (r_dice : Int32) (r_bt : Int32) (r_gt : Int32) (d_pips : Nat → Int32) (d_many : Nat → Int32) (d_berths : Int32) (d_goal : Int32) (x_text : Nat → Int32) (X : tg_X) (hl0 : tg_l X = l) (C : tg_C X D 2 cX2_readItem RX2 4 85 0 0) (V : tg_V X) (q_r_fault : Int32) (q_r_kind : Int32) (q_r_start : Int32) (q_r_next : Int32) (q_r_number : Int32) (q_r_dice : Int32) (q_r_bt : Int32) (q_r_gt : Int32) (q_d_pips : Nat → Int32) (q_d_many : Nat → Int32) (q_d_berths : Int32) (q_d_goal : Int32) (hs : fX2_readItem r_fault r_length r_kind r_start r_next r_number r_dice r_bt r_gt d_pips d_many d_berths d_goal x_text = some (q_r_fault, q_r_kind, q_r_start, q_r_next, q_r_number, q_r_dice, q_r_bt, q_r_gt, q_d_pips, q_d_many, q_d_berths, q_d_goal)) (hE : tg_Ev X D 0 0 cX2_readItem (tw_R D r0 e0 e1 e2 x0 x0 q_r_fault r_length q_r_kind q_r_start q_r_next q_r_number q_r_dice q_r_bt q_r_gt q_d_pips q_d_many q_d_berths q_d_goal x_text)) : tg_G X D 2 0 0 (tw_R D r0 e0 e1 e2 x0 x0 r_fault r_length r_kind r_start r_next r_number r_dice r_bt r_gt d_pips d_many d_berths d_goal x_text) [(0, .ref r0)] 0 [] := by
  unfold fX2_readItem at hs
  refine tg_aload_n C dX2_readItem_0 rfl 0 rfl ?_
  refine tg_get (v := .int r_kind) C cfX2 0 rfl 4 (by decide) wm_127 rfl dX2_readItem_1 ?_
  refine tg_iconst (v := 1) C dX2_readItem_4 (by decide) ?_
  obtain ⟨vv2, ee129, hs⟩ := tg_b1_e hs
  have JJ3 : tg_G X D 2 0 0 (tw_R D r0 e0 e1 e2 x0 x0 r_fault r_length r_kind r_start r_next r_number r_dice r_bt r_gt d_pips d_many d_berths d_goal x_text) [(0, .ref r0)] 35 [.int vv2] := by
    refine tg_istore_n (lv' := [(1, .int vv2), (0, .ref r0)]) C dX2_readItem_35 rfl (by decide) rfl ?_
    refine tg_iload_n C dX2_readItem_36 rfl 0 rfl ?_
    refine tg_bipush (v := 100) C dX2_readItem_37 (by decide) ?_
    refine tg_icmp_ne (tgt := 57) C dX2_readItem_39 (by decide) (fun cc6 => ?_) (fun cc6 => ?_)
    · have hs := tg_t cc6 hs
      refine tg_iload_n C dX2_readItem_57 rfl 0 rfl ?_
      refine tg_bipush (v := 98) C dX2_readItem_58 (by decide) ?_
      refine tg_icmp_ne (tgt := 92) C dX2_readItem_60 (by decide) (fun cc7 => ?_) (fun cc7 => ?_)
      · have hs := tg_t cc7 hs
        refine tg_iload_n C dX2_readItem_92 rfl 0 rfl ?_
        refine tg_bipush (v := 103) C dX2_readItem_93 (by decide) ?_
        refine tg_icmp_ne (tgt := 127) C dX2_readItem_95 (by decide) (fun cc8 => ?_) (fun cc8 => ?_)
        · have hs := tg_t cc8 hs
          refine tg_aload_n C dX2_readItem_127 rfl 1 rfl ?_
          obtain ⟨vv9, ee10, hs⟩ := tg_b1_e hs
          refine tg_eVs (ws' := (tw_R D r0 e0 e1 e2 x0 x0 vv9 r_length r_kind r_start r_next r_number r_dice r_bt r_gt d_pips d_many d_berths d_goal x_text)) (As := []) (rest := []) C V hl0 (kX2_refuse l D r0 e0 e1 e2 x0 r_fault r_length r_kind r_start r_next r_number r_dice r_bt r_gt d_pips d_many d_berths d_goal x_text vv9 ee10) wm_328 meX2_refuse (by decide) rfl rfl rfl rfl (Nat.le_of_ble_eq_true rfl) rfl dX2_readItem_128 ?_
          obtain ⟨rfl, rfl, rfl, rfl, rfl, rfl, rfl, rfl, rfl, rfl, rfl, rfl⟩ := tg_i12 hs
          exact tg_vret hE dX2_readItem_131
        · have hs := tg_nf cc8 hs
          refine tg_aload_n C dX2_readItem_98 rfl 1 rfl ?_
          refine tg_get (v := .int r_gt) C cfX2 0 rfl 10 (by decide) wm_133 rfl dX2_readItem_99 ?_
          refine tg_if_ne (tgt := 127) C dX2_readItem_102 (by decide) (fun cc11 => ?_) (fun cc11 => ?_)
          · have hs := tg_t cc11 hs
            refine tg_aload_n C dX2_readItem_127 rfl 1 rfl ?_
            obtain ⟨vv12, ee13, hs⟩ := tg_b1_e hs
            refine tg_eVs (ws' := (tw_R D r0 e0 e1 e2 x0 x0 vv12 r_length r_kind r_start r_next r_number r_dice r_bt r_gt d_pips d_many d_berths d_goal x_text)) (As := []) (rest := []) C V hl0 (kX2_refuse l D r0 e0 e1 e2 x0 r_fault r_length r_kind r_start r_next r_number r_dice r_bt r_gt d_pips d_many d_berths d_goal x_text vv12 ee13) wm_328 meX2_refuse (by decide) rfl rfl rfl rfl (Nat.le_of_ble_eq_true rfl) rfl dX2_readItem_128 ?_
            obtain ⟨rfl, rfl, rfl, rfl, rfl, rfl, rfl, rfl, rfl, rfl, rfl, rfl⟩ := tg_i12 hs
            exact tg_vret hE dX2_readItem_131
          · have hs := tg_nf cc11 hs
            refine tg_aload_n C dX2_readItem_105 rfl 1 rfl ?_
            refine tg_iconst (v := 1) C dX2_readItem_106 (by decide) ?_
            refine tg_put (ws' := (tw_R D r0 e0 e1 e2 x0 x0 r_fault r_length r_kind r_start r_next r_number r_dice r_bt 1 d_pips d_many d_berths d_goal x_text)) C V cfX2 0 rfl 10 (by decide) wm_133 rfl rfl rfl (Nat.le_of_ble_eq_true rfl) rfl dX2_readItem_107 ?_
            refine tg_aload_n C dX2_readItem_110 rfl 1 rfl ?_
            refine tg_get (v := .ref e0) C cfX2 0 rfl 0 (by decide) wm_121 rfl dX2_readItem_111 ?_
            refine tg_aload_n C dX2_readItem_114 rfl 1 rfl ?_
            refine tg_iconst (v := 1) C dX2_readItem_115 (by decide) ?_
            refine tg_bipush (v := 9) C dX2_readItem_116 (by decide) ?_
            obtain ⟨rr14, vv15, vv16, vv17, vv18, vv19, ee20, hs⟩ := tg_b6_e hs
            refine tg_eVs (ws' := (tw_R D r0 e0 e1 e2 x0 x0 vv15 r_length vv16 vv17 vv18 vv19 r_dice r_bt 1 d_pips d_many d_berths d_goal x_text)) (As := [.int 1, .int 9]) (rest := [.ref e0]) C V hl0 (kX2_readNumber l D r0 e0 e1 e2 x0 r_fault r_length r_kind r_start r_next r_number r_dice r_bt 1 d_pips d_many d_berths d_goal x_text 1 9 rr14 vv15 vv16 vv17 vv18 vv19 ee20) wm_332 meX2_readNumber (by decide) rfl rfl rfl rfl (Nat.le_of_ble_eq_true rfl) rfl dX2_readItem_118 ?_
            refine tg_put (ws' := (tw_R D r0 e0 e1 e2 x0 x0 vv15 r_length vv16 vv17 vv18 vv19 r_dice r_bt 1 d_pips d_many d_berths rr14 x_text)) C V cfX3 1 rfl 3 (by decide) wm_99 rfl rfl rfl (Nat.le_of_ble_eq_true rfl) rfl dX2_readItem_121 ?_
            refine tg_goto (tgt := 132) C dX2_readItem_124 (by decide) ?_
            refine tg_aload_n C dX2_readItem_132 rfl 1 rfl ?_
            obtain ⟨vv21, vv22, vv23, vv24, vv25, ee26, hs⟩ := tg_b5_e hs
            refine tg_eVs (ws' := (tw_R D r0 e0 e1 e2 x0 x0 vv21 r_length vv22 vv23 vv24 vv25 r_dice r_bt 1 d_pips d_many d_berths rr14 x_text)) (As := []) (rest := []) C V hl0 (kX2_readStop l D r0 e0 e1 e2 x0 vv15 r_length vv16 vv17 vv18 vv19 r_dice r_bt 1 d_pips d_many d_berths rr14 x_text vv21 vv22 vv23 vv24 vv25 ee26) wm_336 meX2_readStop (by decide) rfl rfl rfl rfl (Nat.le_of_ble_eq_true rfl) rfl dX2_readItem_133 ?_
            obtain ⟨rfl, rfl, rfl, rfl, rfl, rfl, rfl, rfl, rfl, rfl, rfl, rfl⟩ := tg_i12 hs
            exact tg_vret hE dX2_readItem_136
      · have hs := tg_nf cc7 hs
        refine tg_aload_n C dX2_readItem_63 rfl 1 rfl ?_
        refine tg_get (v := .int r_bt) C cfX2 0 rfl 9 (by decide) wm_132 rfl dX2_readItem_64 ?_
        refine tg_if_ne (tgt := 92) C dX2_readItem_67 (by decide) (fun cc27 => ?_) (fun cc27 => ?_)
        · have hs := tg_t cc27 hs
          refine tg_iload_n C dX2_readItem_92 rfl 0 rfl ?_
          refine tg_bipush (v := 103) C dX2_readItem_93 (by decide) ?_
          refine tg_icmp_ne (tgt := 127) C dX2_readItem_95 (by decide) (fun cc28 => ?_) (fun cc28 => ?_)
          · have hs := tg_t cc28 hs
            refine tg_aload_n C dX2_readItem_127 rfl 1 rfl ?_
            obtain ⟨vv29, ee30, hs⟩ := tg_b1_e hs
            refine tg_eVs (ws' := (tw_R D r0 e0 e1 e2 x0 x0 vv29 r_length r_kind r_start r_next r_number r_dice r_bt r_gt d_pips d_many d_berths d_goal x_text)) (As := []) (rest := []) C V hl0 (kX2_refuse l D r0 e0 e1 e2 x0 r_fault r_length r_kind r_start r_next r_number r_dice r_bt r_gt d_pips d_many d_berths d_goal x_text vv29 ee30) wm_328 meX2_refuse (by decide) rfl rfl rfl rfl (Nat.le_of_ble_eq_true rfl) rfl dX2_readItem_128 ?_
            obtain ⟨rfl, rfl, rfl, rfl, rfl, rfl, rfl, rfl, rfl, rfl, rfl, rfl⟩ := tg_i12 hs
            exact tg_vret hE dX2_readItem_131
          · have hs := tg_nf cc28 hs
            refine tg_aload_n C dX2_readItem_98 rfl 1 rfl ?_
            refine tg_get (v := .int r_gt) C cfX2 0 rfl 10 (by decide) wm_133 rfl dX2_readItem_99 ?_
            refine tg_if_ne (tgt := 127) C dX2_readItem_102 (by decide) (fun cc31 => ?_) (fun cc31 => ?_)
            · have hs := tg_t cc31 hs
              refine tg_aload_n C dX2_readItem_127 rfl 1 rfl ?_
              obtain ⟨vv32, ee33, hs⟩ := tg_b1_e hs
              refine tg_eVs (ws' := (tw_R D r0 e0 e1 e2 x0 x0 vv32 r_length r_kind r_start r_next r_number r_dice r_bt r_gt d_pips d_many d_berths d_goal x_text)) (As := []) (rest := []) C V hl0 (kX2_refuse l D r0 e0 e1 e2 x0 r_fault r_length r_kind r_start r_next r_number r_dice r_bt r_gt d_pips d_many d_berths d_goal x_text vv32 ee33) wm_328 meX2_refuse (by decide) rfl rfl rfl rfl (Nat.le_of_ble_eq_true rfl) rfl dX2_readItem_128 ?_
              obtain ⟨rfl, rfl, rfl, rfl, rfl, rfl, rfl, rfl, rfl, rfl, rfl, rfl⟩ := tg_i12 hs
              exact tg_vret hE dX2_readItem_131
            · have hs := tg_nf cc31 hs
              refine tg_aload_n C dX2_readItem_105 rfl 1 rfl ?_
              refine tg_iconst (v := 1) C dX2_readItem_106 (by decide) ?_
              refine tg_put (ws' := (tw_R D r0 e0 e1 e2 x0 x0 r_fault r_length r_kind r_start r_next r_number r_dice r_bt 1 d_pips d_many d_berths d_goal x_text)) C V cfX2 0 rfl 10 (by decide) wm_133 rfl rfl rfl (Nat.le_of_ble_eq_true rfl) rfl dX2_readItem_107 ?_
              refine tg_aload_n C dX2_readItem_110 rfl 1 rfl ?_
              refine tg_get (v := .ref e0) C cfX2 0 rfl 0 (by decide) wm_121 rfl dX2_readItem_111 ?_
              refine tg_aload_n C dX2_readItem_114 rfl 1 rfl ?_
              refine tg_iconst (v := 1) C dX2_readItem_115 (by decide) ?_
              refine tg_bipush (v := 9) C dX2_readItem_116 (by decide) ?_
              obtain ⟨rr34, vv35, vv36, vv37, vv38, vv39, ee40, hs⟩ := tg_b6_e hs
              refine tg_eVs (ws' := (tw_R D r0 e0 e1 e2 x0 x0 vv35 r_length vv36 vv37 vv38 vv39 r_dice r_bt 1 d_pips d_many d_berths d_goal x_text)) (As := [.int 1, .int 9]) (rest := [.ref e0]) C V hl0 (kX2_readNumber l D r0 e0 e1 e2 x0 r_fault r_length r_kind r_start r_next r_number r_dice r_bt 1 d_pips d_many d_berths d_goal x_text 1 9 rr34 vv35 vv36 vv37 vv38 vv39 ee40) wm_332 meX2_readNumber (by decide) rfl rfl rfl rfl (Nat.le_of_ble_eq_true rfl) rfl dX2_readItem_118 ?_
              refine tg_put (ws' := (tw_R D r0 e0 e1 e2 x0 x0 vv35 r_length vv36 vv37 vv38 vv39 r_dice r_bt 1 d_pips d_many d_berths rr34 x_text)) C V cfX3 1 rfl 3 (by decide) wm_99 rfl rfl rfl (Nat.le_of_ble_eq_true rfl) rfl dX2_readItem_121 ?_
              refine tg_goto (tgt := 132) C dX2_readItem_124 (by decide) ?_
              refine tg_aload_n C dX2_readItem_132 rfl 1 rfl ?_
              obtain ⟨vv41, vv42, vv43, vv44, vv45, ee46, hs⟩ := tg_b5_e hs
              refine tg_eVs (ws' := (tw_R D r0 e0 e1 e2 x0 x0 vv41 r_length vv42 vv43 vv44 vv45 r_dice r_bt 1 d_pips d_many d_berths rr34 x_text)) (As := []) (rest := []) C V hl0 (kX2_readStop l D r0 e0 e1 e2 x0 vv35 r_length vv36 vv37 vv38 vv39 r_dice r_bt 1 d_pips d_many d_berths rr34 x_text vv41 vv42 vv43 vv44 vv45 ee46) wm_336 meX2_readStop (by decide) rfl rfl rfl rfl (Nat.le_of_ble_eq_true rfl) rfl dX2_readItem_133 ?_
              obtain ⟨rfl, rfl, rfl, rfl, rfl, rfl, rfl, rfl, rfl, rfl, rfl, rfl⟩ := tg_i12 hs
              exact tg_vret hE dX2_readItem_136
        · have hs := tg_nf cc27 hs
          refine tg_aload_n C dX2_readItem_70 rfl 1 rfl ?_
          refine tg_iconst (v := 1) C dX2_readItem_71 (by decide) ?_
          refine tg_put (ws' := (tw_R D r0 e0 e1 e2 x0 x0 r_fault r_length r_kind r_start r_next r_number r_dice 1 r_gt d_pips d_many d_berths d_goal x_text)) C V cfX2 0 rfl 9 (by decide) wm_132 rfl rfl rfl (Nat.le_of_ble_eq_true rfl) rfl dX2_readItem_72 ?_
          refine tg_aload_n C dX2_readItem_75 rfl 1 rfl ?_
          refine tg_get (v := .ref e0) C cfX2 0 rfl 0 (by decide) wm_121 rfl dX2_readItem_76 ?_
          refine tg_aload_n C dX2_readItem_79 rfl 1 rfl ?_
          refine tg_iconst (v := 3) C dX2_readItem_80 (by decide) ?_
          refine tg_bipush (v := 18) C dX2_readItem_81 (by decide) ?_
          obtain ⟨rr47, vv48, vv49, vv50, vv51, vv52, ee53, hs⟩ := tg_b6_e hs
          refine tg_eVs (ws' := (tw_R D r0 e0 e1 e2 x0 x0 vv48 r_length vv49 vv50 vv51 vv52 r_dice 1 r_gt d_pips d_many d_berths d_goal x_text)) (As := [.int 3, .int 18]) (rest := [.ref e0]) C V hl0 (kX2_readNumber l D r0 e0 e1 e2 x0 r_fault r_length r_kind r_start r_next r_number r_dice 1 r_gt d_pips d_many d_berths d_goal x_text 3 18 rr47 vv48 vv49 vv50 vv51 vv52 ee53) wm_332 meX2_readNumber (by decide) rfl rfl rfl rfl (Nat.le_of_ble_eq_true rfl) rfl dX2_readItem_83 ?_
          refine tg_put (ws' := (tw_R D r0 e0 e1 e2 x0 x0 vv48 r_length vv49 vv50 vv51 vv52 r_dice 1 r_gt d_pips d_many rr47 d_goal x_text)) C V cfX3 1 rfl 2 (by decide) wm_96 rfl rfl rfl (Nat.le_of_ble_eq_true rfl) rfl dX2_readItem_86 ?_
          refine tg_goto (tgt := 132) C dX2_readItem_89 (by decide) ?_
          refine tg_aload_n C dX2_readItem_132 rfl 1 rfl ?_
          obtain ⟨vv54, vv55, vv56, vv57, vv58, ee59, hs⟩ := tg_b5_e hs
          refine tg_eVs (ws' := (tw_R D r0 e0 e1 e2 x0 x0 vv54 r_length vv55 vv56 vv57 vv58 r_dice 1 r_gt d_pips d_many rr47 d_goal x_text)) (As := []) (rest := []) C V hl0 (kX2_readStop l D r0 e0 e1 e2 x0 vv48 r_length vv49 vv50 vv51 vv52 r_dice 1 r_gt d_pips d_many rr47 d_goal x_text vv54 vv55 vv56 vv57 vv58 ee59) wm_336 meX2_readStop (by decide) rfl rfl rfl rfl (Nat.le_of_ble_eq_true rfl) rfl dX2_readItem_133 ?_
          obtain ⟨rfl, rfl, rfl, rfl, rfl, rfl, rfl, rfl, rfl, rfl, rfl, rfl⟩ := tg_i12 hs
          exact tg_vret hE dX2_readItem_136
    · have hs := tg_nf cc6 hs
      refine tg_aload_n C dX2_readItem_42 rfl 1 rfl ?_
      refine tg_get (v := .int r_dice) C cfX2 0 rfl 8 (by decide) wm_131 rfl dX2_readItem_43 ?_
      refine tg_iconst (v := 3) C dX2_readItem_46 (by decide) ?_
      refine tg_icmp_ge (tgt := 57) C dX2_readItem_47 (by decide) (fun cc60 => ?_) (fun cc60 => ?_)
      · have hs := tg_t cc60 hs
        refine tg_iload_n C dX2_readItem_57 rfl 0 rfl ?_
        refine tg_bipush (v := 98) C dX2_readItem_58 (by decide) ?_
        refine tg_icmp_ne (tgt := 92) C dX2_readItem_60 (by decide) (fun cc61 => ?_) (fun cc61 => ?_)
        · have hs := tg_t cc61 hs
          refine tg_iload_n C dX2_readItem_92 rfl 0 rfl ?_
          refine tg_bipush (v := 103) C dX2_readItem_93 (by decide) ?_
          refine tg_icmp_ne (tgt := 127) C dX2_readItem_95 (by decide) (fun cc62 => ?_) (fun cc62 => ?_)
          · have hs := tg_t cc62 hs
            refine tg_aload_n C dX2_readItem_127 rfl 1 rfl ?_
            obtain ⟨vv63, ee64, hs⟩ := tg_b1_e hs
            refine tg_eVs (ws' := (tw_R D r0 e0 e1 e2 x0 x0 vv63 r_length r_kind r_start r_next r_number r_dice r_bt r_gt d_pips d_many d_berths d_goal x_text)) (As := []) (rest := []) C V hl0 (kX2_refuse l D r0 e0 e1 e2 x0 r_fault r_length r_kind r_start r_next r_number r_dice r_bt r_gt d_pips d_many d_berths d_goal x_text vv63 ee64) wm_328 meX2_refuse (by decide) rfl rfl rfl rfl (Nat.le_of_ble_eq_true rfl) rfl dX2_readItem_128 ?_
            obtain ⟨rfl, rfl, rfl, rfl, rfl, rfl, rfl, rfl, rfl, rfl, rfl, rfl⟩ := tg_i12 hs
            exact tg_vret hE dX2_readItem_131
          · have hs := tg_nf cc62 hs
            refine tg_aload_n C dX2_readItem_98 rfl 1 rfl ?_
            refine tg_get (v := .int r_gt) C cfX2 0 rfl 10 (by decide) wm_133 rfl dX2_readItem_99 ?_
            refine tg_if_ne (tgt := 127) C dX2_readItem_102 (by decide) (fun cc65 => ?_) (fun cc65 => ?_)
            · have hs := tg_t cc65 hs
              refine tg_aload_n C dX2_readItem_127 rfl 1 rfl ?_
              obtain ⟨vv66, ee67, hs⟩ := tg_b1_e hs
              refine tg_eVs (ws' := (tw_R D r0 e0 e1 e2 x0 x0 vv66 r_length r_kind r_start r_next r_number r_dice r_bt r_gt d_pips d_many d_berths d_goal x_text)) (As := []) (rest := []) C V hl0 (kX2_refuse l D r0 e0 e1 e2 x0 r_fault r_length r_kind r_start r_next r_number r_dice r_bt r_gt d_pips d_many d_berths d_goal x_text vv66 ee67) wm_328 meX2_refuse (by decide) rfl rfl rfl rfl (Nat.le_of_ble_eq_true rfl) rfl dX2_readItem_128 ?_
              obtain ⟨rfl, rfl, rfl, rfl, rfl, rfl, rfl, rfl, rfl, rfl, rfl, rfl⟩ := tg_i12 hs
              exact tg_vret hE dX2_readItem_131
            · have hs := tg_nf cc65 hs
              refine tg_aload_n C dX2_readItem_105 rfl 1 rfl ?_
              refine tg_iconst (v := 1) C dX2_readItem_106 (by decide) ?_
              refine tg_put (ws' := (tw_R D r0 e0 e1 e2 x0 x0 r_fault r_length r_kind r_start r_next r_number r_dice r_bt 1 d_pips d_many d_berths d_goal x_text)) C V cfX2 0 rfl 10 (by decide) wm_133 rfl rfl rfl (Nat.le_of_ble_eq_true rfl) rfl dX2_readItem_107 ?_
              refine tg_aload_n C dX2_readItem_110 rfl 1 rfl ?_
              refine tg_get (v := .ref e0) C cfX2 0 rfl 0 (by decide) wm_121 rfl dX2_readItem_111 ?_
              refine tg_aload_n C dX2_readItem_114 rfl 1 rfl ?_
              refine tg_iconst (v := 1) C dX2_readItem_115 (by decide) ?_
              refine tg_bipush (v := 9) C dX2_readItem_116 (by decide) ?_
              obtain ⟨rr68, vv69, vv70, vv71, vv72, vv73, ee74, hs⟩ := tg_b6_e hs
              refine tg_eVs (ws' := (tw_R D r0 e0 e1 e2 x0 x0 vv69 r_length vv70 vv71 vv72 vv73 r_dice r_bt 1 d_pips d_many d_berths d_goal x_text)) (As := [.int 1, .int 9]) (rest := [.ref e0]) C V hl0 (kX2_readNumber l D r0 e0 e1 e2 x0 r_fault r_length r_kind r_start r_next r_number r_dice r_bt 1 d_pips d_many d_berths d_goal x_text 1 9 rr68 vv69 vv70 vv71 vv72 vv73 ee74) wm_332 meX2_readNumber (by decide) rfl rfl rfl rfl (Nat.le_of_ble_eq_true rfl) rfl dX2_readItem_118 ?_
              refine tg_put (ws' := (tw_R D r0 e0 e1 e2 x0 x0 vv69 r_length vv70 vv71 vv72 vv73 r_dice r_bt 1 d_pips d_many d_berths rr68 x_text)) C V cfX3 1 rfl 3 (by decide) wm_99 rfl rfl rfl (Nat.le_of_ble_eq_true rfl) rfl dX2_readItem_121 ?_
              refine tg_goto (tgt := 132) C dX2_readItem_124 (by decide) ?_
              refine tg_aload_n C dX2_readItem_132 rfl 1 rfl ?_
              obtain ⟨vv75, vv76, vv77, vv78, vv79, ee80, hs⟩ := tg_b5_e hs
              refine tg_eVs (ws' := (tw_R D r0 e0 e1 e2 x0 x0 vv75 r_length vv76 vv77 vv78 vv79 r_dice r_bt 1 d_pips d_many d_berths rr68 x_text)) (As := []) (rest := []) C V hl0 (kX2_readStop l D r0 e0 e1 e2 x0 vv69 r_length vv70 vv71 vv72 vv73 r_dice r_bt 1 d_pips d_many d_berths rr68 x_text vv75 vv76 vv77 vv78 vv79 ee80) wm_336 meX2_readStop (by decide) rfl rfl rfl rfl (Nat.le_of_ble_eq_true rfl) rfl dX2_readItem_133 ?_
              obtain ⟨rfl, rfl, rfl, rfl, rfl, rfl, rfl, rfl, rfl, rfl, rfl, rfl⟩ := tg_i12 hs
              exact tg_vret hE dX2_readItem_136
        · have hs := tg_nf cc61 hs
          refine tg_aload_n C dX2_readItem_63 rfl 1 rfl ?_
          refine tg_get (v := .int r_bt) C cfX2 0 rfl 9 (by decide) wm_132 rfl dX2_readItem_64 ?_
          refine tg_if_ne (tgt := 92) C dX2_readItem_67 (by decide) (fun cc81 => ?_) (fun cc81 => ?_)
          · have hs := tg_t cc81 hs
            refine tg_iload_n C dX2_readItem_92 rfl 0 rfl ?_
            refine tg_bipush (v := 103) C dX2_readItem_93 (by decide) ?_
            refine tg_icmp_ne (tgt := 127) C dX2_readItem_95 (by decide) (fun cc82 => ?_) (fun cc82 => ?_)
            · have hs := tg_t cc82 hs
              refine tg_aload_n C dX2_readItem_127 rfl 1 rfl ?_
              obtain ⟨vv83, ee84, hs⟩ := tg_b1_e hs
              refine tg_eVs (ws' := (tw_R D r0 e0 e1 e2 x0 x0 vv83 r_length r_kind r_start r_next r_number r_dice r_bt r_gt d_pips d_many d_berths d_goal x_text)) (As := []) (rest := []) C V hl0 (kX2_refuse l D r0 e0 e1 e2 x0 r_fault r_length r_kind r_start r_next r_number r_dice r_bt r_gt d_pips d_many d_berths d_goal x_text vv83 ee84) wm_328 meX2_refuse (by decide) rfl rfl rfl rfl (Nat.le_of_ble_eq_true rfl) rfl dX2_readItem_128 ?_
              obtain ⟨rfl, rfl, rfl, rfl, rfl, rfl, rfl, rfl, rfl, rfl, rfl, rfl⟩ := tg_i12 hs
              exact tg_vret hE dX2_readItem_131
            · have hs := tg_nf cc82 hs
              refine tg_aload_n C dX2_readItem_98 rfl 1 rfl ?_
              refine tg_get (v := .int r_gt) C cfX2 0 rfl 10 (by decide) wm_133 rfl dX2_readItem_99 ?_
              refine tg_if_ne (tgt := 127) C dX2_readItem_102 (by decide) (fun cc85 => ?_) (fun cc85 => ?_)
              · have hs := tg_t cc85 hs
                refine tg_aload_n C dX2_readItem_127 rfl 1 rfl ?_
                obtain ⟨vv86, ee87, hs⟩ := tg_b1_e hs
                refine tg_eVs (ws' := (tw_R D r0 e0 e1 e2 x0 x0 vv86 r_length r_kind r_start r_next r_number r_dice r_bt r_gt d_pips d_many d_berths d_goal x_text)) (As := []) (rest := []) C V hl0 (kX2_refuse l D r0 e0 e1 e2 x0 r_fault r_length r_kind r_start r_next r_number r_dice r_bt r_gt d_pips d_many d_berths d_goal x_text vv86 ee87) wm_328 meX2_refuse (by decide) rfl rfl rfl rfl (Nat.le_of_ble_eq_true rfl) rfl dX2_readItem_128 ?_
                obtain ⟨rfl, rfl, rfl, rfl, rfl, rfl, rfl, rfl, rfl, rfl, rfl, rfl⟩ := tg_i12 hs
                exact tg_vret hE dX2_readItem_131
              · have hs := tg_nf cc85 hs
                refine tg_aload_n C dX2_readItem_105 rfl 1 rfl ?_
                refine tg_iconst (v := 1) C dX2_readItem_106 (by decide) ?_
                refine tg_put (ws' := (tw_R D r0 e0 e1 e2 x0 x0 r_fault r_length r_kind r_start r_next r_number r_dice r_bt 1 d_pips d_many d_berths d_goal x_text)) C V cfX2 0 rfl 10 (by decide) wm_133 rfl rfl rfl (Nat.le_of_ble_eq_true rfl) rfl dX2_readItem_107 ?_
                refine tg_aload_n C dX2_readItem_110 rfl 1 rfl ?_
                refine tg_get (v := .ref e0) C cfX2 0 rfl 0 (by decide) wm_121 rfl dX2_readItem_111 ?_
                refine tg_aload_n C dX2_readItem_114 rfl 1 rfl ?_
                refine tg_iconst (v := 1) C dX2_readItem_115 (by decide) ?_
                refine tg_bipush (v := 9) C dX2_readItem_116 (by decide) ?_
                obtain ⟨rr88, vv89, vv90, vv91, vv92, vv93, ee94, hs⟩ := tg_b6_e hs
                refine tg_eVs (ws' := (tw_R D r0 e0 e1 e2 x0 x0 vv89 r_length vv90 vv91 vv92 vv93 r_dice r_bt 1 d_pips d_many d_berths d_goal x_text)) (As := [.int 1, .int 9]) (rest := [.ref e0]) C V hl0 (kX2_readNumber l D r0 e0 e1 e2 x0 r_fault r_length r_kind r_start r_next r_number r_dice r_bt 1 d_pips d_many d_berths d_goal x_text 1 9 rr88 vv89 vv90 vv91 vv92 vv93 ee94) wm_332 meX2_readNumber (by decide) rfl rfl rfl rfl (Nat.le_of_ble_eq_true rfl) rfl dX2_readItem_118 ?_
                refine tg_put (ws' := (tw_R D r0 e0 e1 e2 x0 x0 vv89 r_length vv90 vv91 vv92 vv93 r_dice r_bt 1 d_pips d_many d_berths rr88 x_text)) C V cfX3 1 rfl 3 (by decide) wm_99 rfl rfl rfl (Nat.le_of_ble_eq_true rfl) rfl dX2_readItem_121 ?_
                refine tg_goto (tgt := 132) C dX2_readItem_124 (by decide) ?_
                refine tg_aload_n C dX2_readItem_132 rfl 1 rfl ?_
                obtain ⟨vv95, vv96, vv97, vv98, vv99, ee100, hs⟩ := tg_b5_e hs
                refine tg_eVs (ws' := (tw_R D r0 e0 e1 e2 x0 x0 vv95 r_length vv96 vv97 vv98 vv99 r_dice r_bt 1 d_pips d_many d_berths rr88 x_text)) (As := []) (rest := []) C V hl0 (kX2_readStop l D r0 e0 e1 e2 x0 vv89 r_length vv90 vv91 vv92 vv93 r_dice r_bt 1 d_pips d_many d_berths rr88 x_text vv95 vv96 vv97 vv98 vv99 ee100) wm_336 meX2_readStop (by decide) rfl rfl rfl rfl (Nat.le_of_ble_eq_true rfl) rfl dX2_readItem_133 ?_
                obtain ⟨rfl, rfl, rfl, rfl, rfl, rfl, rfl, rfl, rfl, rfl, rfl, rfl⟩ := tg_i12 hs
                exact tg_vret hE dX2_readItem_136
          · have hs := tg_nf cc81 hs
            refine tg_aload_n C dX2_readItem_70 rfl 1 rfl ?_
            refine tg_iconst (v := 1) C dX2_readItem_71 (by decide) ?_
            refine tg_put (ws' := (tw_R D r0 e0 e1 e2 x0 x0 r_fault r_length r_kind r_start r_next r_number r_dice 1 r_gt d_pips d_many d_berths d_goal x_text)) C V cfX2 0 rfl 9 (by decide) wm_132 rfl rfl rfl (Nat.le_of_ble_eq_true rfl) rfl dX2_readItem_72 ?_
            refine tg_aload_n C dX2_readItem_75 rfl 1 rfl ?_
            refine tg_get (v := .ref e0) C cfX2 0 rfl 0 (by decide) wm_121 rfl dX2_readItem_76 ?_
            refine tg_aload_n C dX2_readItem_79 rfl 1 rfl ?_
            refine tg_iconst (v := 3) C dX2_readItem_80 (by decide) ?_
            refine tg_bipush (v := 18) C dX2_readItem_81 (by decide) ?_
            obtain ⟨rr101, vv102, vv103, vv104, vv105, vv106, ee107, hs⟩ := tg_b6_e hs
            refine tg_eVs (ws' := (tw_R D r0 e0 e1 e2 x0 x0 vv102 r_length vv103 vv104 vv105 vv106 r_dice 1 r_gt d_pips d_many d_berths d_goal x_text)) (As := [.int 3, .int 18]) (rest := [.ref e0]) C V hl0 (kX2_readNumber l D r0 e0 e1 e2 x0 r_fault r_length r_kind r_start r_next r_number r_dice 1 r_gt d_pips d_many d_berths d_goal x_text 3 18 rr101 vv102 vv103 vv104 vv105 vv106 ee107) wm_332 meX2_readNumber (by decide) rfl rfl rfl rfl (Nat.le_of_ble_eq_true rfl) rfl dX2_readItem_83 ?_
            refine tg_put (ws' := (tw_R D r0 e0 e1 e2 x0 x0 vv102 r_length vv103 vv104 vv105 vv106 r_dice 1 r_gt d_pips d_many rr101 d_goal x_text)) C V cfX3 1 rfl 2 (by decide) wm_96 rfl rfl rfl (Nat.le_of_ble_eq_true rfl) rfl dX2_readItem_86 ?_
            refine tg_goto (tgt := 132) C dX2_readItem_89 (by decide) ?_
            refine tg_aload_n C dX2_readItem_132 rfl 1 rfl ?_
            obtain ⟨vv108, vv109, vv110, vv111, vv112, ee113, hs⟩ := tg_b5_e hs
            refine tg_eVs (ws' := (tw_R D r0 e0 e1 e2 x0 x0 vv108 r_length vv109 vv110 vv111 vv112 r_dice 1 r_gt d_pips d_many rr101 d_goal x_text)) (As := []) (rest := []) C V hl0 (kX2_readStop l D r0 e0 e1 e2 x0 vv102 r_length vv103 vv104 vv105 vv106 r_dice 1 r_gt d_pips d_many rr101 d_goal x_text vv108 vv109 vv110 vv111 vv112 ee113) wm_336 meX2_readStop (by decide) rfl rfl rfl rfl (Nat.le_of_ble_eq_true rfl) rfl dX2_readItem_133 ?_
            obtain ⟨rfl, rfl, rfl, rfl, rfl, rfl, rfl, rfl, rfl, rfl, rfl, rfl⟩ := tg_i12 hs
            exact tg_vret hE dX2_readItem_136
      · have hs := tg_f cc60 hs
        refine tg_aload_n C dX2_readItem_50 rfl 1 rfl ?_
        obtain ⟨vv114, vv115, vv116, vv117, vv118, vv119, gg120, gg121, ee122, hs⟩ := tg_b8_e hs
        refine tg_eVs (ws' := (tw_R D r0 e0 e1 e2 x0 x0 vv114 r_length vv115 vv116 vv117 vv118 vv119 r_bt r_gt gg120 gg121 d_berths d_goal x_text)) (As := []) (rest := []) C V hl0 (kX2_readDie l D r0 e0 e1 e2 x0 r_fault r_length r_kind r_start r_next r_number r_dice r_bt r_gt d_pips d_many d_berths d_goal x_text vv114 vv115 vv116 vv117 vv118 vv119 gg120 gg121 ee122) wm_320 meX2_readDie (by decide) rfl rfl rfl rfl (Nat.le_of_ble_eq_true rfl) rfl dX2_readItem_51 ?_
        refine tg_goto (tgt := 132) C dX2_readItem_54 (by decide) ?_
        refine tg_aload_n C dX2_readItem_132 rfl 1 rfl ?_
        obtain ⟨vv123, vv124, vv125, vv126, vv127, ee128, hs⟩ := tg_b5_e hs
        refine tg_eVs (ws' := (tw_R D r0 e0 e1 e2 x0 x0 vv123 r_length vv124 vv125 vv126 vv127 vv119 r_bt r_gt gg120 gg121 d_berths d_goal x_text)) (As := []) (rest := []) C V hl0 (kX2_readStop l D r0 e0 e1 e2 x0 vv114 r_length vv115 vv116 vv117 vv118 vv119 r_bt r_gt gg120 gg121 d_berths d_goal x_text vv123 vv124 vv125 vv126 vv127 ee128) wm_336 meX2_readStop (by decide) rfl rfl rfl rfl (Nat.le_of_ble_eq_true rfl) rfl dX2_readItem_133 ?_
        obtain ⟨rfl, rfl, rfl, rfl, rfl, rfl, rfl, rfl, rfl, rfl, rfl, rfl⟩ := tg_i12 hs
        exact tg_vret hE dX2_readItem_136
  have hs := ee129
  clear ee129
  refine tg_icmp_ne (tgt := 33) C dX2_readItem_5 (by decide) (fun cc1 => ?_) (fun cc1 => ?_)
  · have hs := tg_t cc1 hs
    refine tg_bipush (v := 32) C dX2_readItem_33 (by decide) ?_
    obtain rfl := Option.some.inj hs
    exact JJ3
  · have hs := tg_nf cc1 hs
    refine tg_aload_n C dX2_readItem_8 rfl 0 rfl ?_
    refine tg_get (v := .int r_next) C cfX2 0 rfl 6 (by decide) wm_129 rfl dX2_readItem_9 ?_
    refine tg_aload_n C dX2_readItem_12 rfl 0 rfl ?_
    refine tg_get (v := .int r_start) C cfX2 0 rfl 5 (by decide) wm_128 rfl dX2_readItem_13 ?_
    refine tg_isub C dX2_readItem_16 ?_
    refine tg_iconst (v := 1) C dX2_readItem_17 (by decide) ?_
    refine tg_icmp_ne (tgt := 33) C dX2_readItem_18 (by decide) (fun cc4 => ?_) (fun cc4 => ?_)
    · have hs := tg_t cc4 hs
      refine tg_bipush (v := 32) C dX2_readItem_33 (by decide) ?_
      obtain rfl := Option.some.inj hs
      exact JJ3
    · have hs := tg_nf cc4 hs
      refine tg_aload_n C dX2_readItem_21 rfl 0 rfl ?_
      refine tg_get (v := .ref x0) C cfX2 0 rfl 2 (by decide) wm_125 rfl dX2_readItem_22 ?_
      refine tg_aload_n C dX2_readItem_25 rfl 0 rfl ?_
      refine tg_get (v := .int r_start) C cfX2 0 rfl 5 (by decide) wm_128 rfl dX2_readItem_26 ?_
      obtain ⟨hh5, hs⟩ := tg_ck_e hs
      refine tg_cald C 4 2 rfl rfl hh5 dX2_readItem_29 ?_
      refine tg_goto (tgt := 35) C dX2_readItem_30 (by decide) ?_
      obtain rfl := Option.some.inj hs
      exact JJ3
set_option maxHeartbeats 2000000 in
set_option maxRecDepth 20000 in
theorem kX2_readItem (l : Launch) (D : tg_D) (r0 e0 e1 e2 x0 : Nat) (r_fault : Int32) (r_length : Int32) (r_kind : Int32) (r_start : Int32) (r_next : Int32) (r_number : Int32) (r_dice : Int32) (r_bt : Int32) (r_gt : Int32) (d_pips : Nat → Int32) (d_many : Nat → Int32) (d_berths : Int32) (d_goal : Int32) (x_text : Nat → Int32) (q_r_fault : Int32) (q_r_kind : Int32) (q_r_start : Int32) (q_r_next : Int32) (q_r_number : Int32) (q_r_dice : Int32) (q_r_bt : Int32) (q_r_gt : Int32) (q_d_pips : Nat → Int32) (q_d_many : Nat → Int32) (q_d_berths : Int32) (q_d_goal : Int32) (hs : fX2_readItem r_fault r_length r_kind r_start r_next r_number r_dice r_bt r_gt d_pips d_many d_berths d_goal x_text = some (q_r_fault, q_r_kind, q_r_start, q_r_next, q_r_number, q_r_dice, q_r_bt, q_r_gt, q_d_pips, q_d_many, q_d_berths, q_d_goal)) : Met l yX2_readItem [Cond.code yX2_readItem cX2_readItem 2 none] (tg_rm 4 85) (tg_Pre D (tw_R D r0 e0 e1 e2 x0 x0 r_fault r_length r_kind r_start r_next r_number r_dice r_bt r_gt d_pips d_many d_berths d_goal x_text) [.ref r0]) (tg_Qe none D (tw_R D r0 e0 e1 e2 x0 x0 q_r_fault r_length q_r_kind q_r_start q_r_next q_r_number q_r_dice q_r_bt q_r_gt q_d_pips q_d_many q_d_berths q_d_goal x_text) (tg_Ad (tw_R D r0 e0 e1 e2 x0 x0 r_fault r_length r_kind r_start r_next r_number r_dice r_bt r_gt d_pips d_many d_berths d_goal x_text))) 0 0 (tg_Ad (tw_R D r0 e0 e1 e2 x0 x0 r_fault r_length r_kind r_start r_next r_number r_dice r_bt r_gt d_pips d_many d_berths d_goal x_text)) := tg_metEv (by decide) (Nat.le_of_ble_eq_true rfl) (fun X hl0 C V hE => vX2_readItem l D r0 e0 e1 e2 x0 r_fault r_length r_kind r_start r_next r_number r_dice r_bt r_gt d_pips d_many d_berths d_goal x_text X hl0 C V q_r_fault q_r_kind q_r_start q_r_next q_r_number q_r_dice q_r_bt q_r_gt q_d_pips q_d_many q_d_berths q_d_goal hs hE)
