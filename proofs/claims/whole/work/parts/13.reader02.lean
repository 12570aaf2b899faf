def fX2_readItems_L54 (r_length : Int32) (x_text : Nat → Int32) : Nat → Int32 → Int32 → Int32 → Int32 → Int32 → Int32 → Int32 → Int32 → (Nat → Int32) → (Nat → Int32) → Int32 → Int32 → Int32 → Option (Int32 × Int32 × Int32 × Int32 × Int32 × Int32 × Int32 × Int32 × (Nat → Int32) × (Nat → Int32) × Int32 × Int32 × Int32)
  | 0, _, _, _, _, _, _, _, _, _, _, _, _, _ => none
  | fuel + 1, r_fault, r_kind, r_start, r_next, r_number, r_dice, r_bt, r_gt, d_pips, d_many, d_berths, d_goal, n3 => if r_length ≤ n3 then (some (r_fault, r_kind, r_start, r_next, r_number, r_dice, r_bt, r_gt, d_pips, d_many, d_berths, d_goal, n3)) else (if r_kind = 0 then (some (r_fault, r_kind, r_start, r_next, r_number, r_dice, r_bt, r_gt, d_pips, d_many, d_berths, d_goal, n3)) else (if ¬ r_fault = (-9) then (some (r_fault, r_kind, r_start, r_next, r_number, r_dice, r_bt, r_gt, d_pips, d_many, d_berths, d_goal, n3)) else (tg_b12 (fX2_readItem r_fault r_length r_kind r_start r_next r_number r_dice r_bt r_gt d_pips d_many d_berths d_goal x_text) fun vv15 vv16 vv17 vv18 vv19 vv20 vv21 vv22 gg23 gg24 vv25 vv26 => tg_nm (n3 + 1) fun vv28 => fX2_readItems_L54 r_length x_text fuel vv15 vv16 vv17 vv18 vv19 vv20 vv21 vv22 gg23 gg24 vv25 vv26 vv28)))
def fX2_readItems (r_number : Int32) (d_pips : Nat → Int32) (d_many : Nat → Int32) (x_text : Nat → Int32) (p2 : Int32) : Option (Int32 × Int32 × Int32 × Int32 × Int32 × Int32 × Int32 × Int32 × Int32 × Int32 × (Nat → Int32) × (Nat → Int32) × Int32 × Int32) := tg_nm (if 120 < p2 then 120 else p2) fun vv1 => tg_b4 (fX3_setFirst d_pips d_many) fun gg2 gg3 vv4 vv5 => tg_b4 (fX2_advance vv1 0 r_number x_text) fun vv7 vv8 vv9 vv10 => tg_b13 (fX2_readItems_L54 vv1 x_text 400 (-9) vv7 vv8 vv9 vv10 0 0 0 gg2 gg3 vv4 vv5 0) fun vv29 vv30 vv31 vv32 vv33 vv34 vv35 vv36 vv37 vv38 vv39 vv40 vv41 => some (vv41, vv29, vv1, vv30, vv31, vv32, vv33, vv34, vv35, vv36, vv37, vv38, vv39, vv40)
set_option maxHeartbeats 2000000 in
set_option maxRecDepth 20000 in
theorem vX2_readItems_L54 (l : Launch) (D : tg_D) (r0 e0 e1 e2 x0 rt : Nat) (r_length : Int32) (x_text : Nat → Int32) (n2 : Int32) (X : tg_X) (hl0 : tg_l X = l) (C : tg_C X D 4 cX2_readItems RX2 5 106 0 0) (V : tg_V X) (o_r_fault : Int32) (o_r_kind : Int32) (o_r_start : Int32) (o_r_next : Int32) (o_r_number : Int32) (o_r_dice : Int32) (o_r_bt : Int32) (o_r_gt : Int32) (o_d_pips : Nat → Int32) (o_d_many : Nat → Int32) (o_d_berths : Int32) (o_d_goal : Int32) (o_n3 : Int32) : ∀ (fuel : Nat) (r_fault : Int32) (r_kind : Int32) (r_start : Int32) (r_next : Int32) (r_number : Int32) (r_dice : Int32) (r_bt : Int32) (r_gt : Int32) (d_pips : Nat → Int32) (d_many : Nat → Int32) (d_berths : Int32) (d_goal : Int32) (n3 : Int32), fX2_readItems_L54 r_length x_text fuel r_fault r_kind r_start r_next r_number r_dice r_bt r_gt d_pips d_many d_berths d_goal n3 = some (o_r_fault, o_r_kind, o_r_start, o_r_next, o_r_number, o_r_dice, o_r_bt, o_r_gt, o_d_pips, o_d_many, o_d_berths, o_d_goal, o_n3) → tg_G X D 4 0 0 (tw_R D r0 e0 e1 e2 x0 x0 o_r_fault r_length o_r_kind o_r_start o_r_next o_r_number o_r_dice o_r_bt o_r_gt o_d_pips o_d_many o_d_berths o_d_goal x_text) [(0, .ref r0), (1, .ref x0), (2, .int n2), (3, .int o_n3)] 88 [] → tg_G X D 4 0 0 (tw_R D r0 e0 e1 e2 x0 x0 r_fault r_length r_kind r_start r_next r_number r_dice r_bt r_gt d_pips d_many d_berths d_goal x_text) [(0, .ref r0), (1, .ref x0), (2, .int n2), (3, .int n3)] 54 [] := by
  intro fuel
  induction fuel with
  | zero =>
    intro r_fault r_kind r_start r_next r_number r_dice r_bt r_gt d_pips d_many d_berths d_goal n3 hs _
    rw [fX2_readItems_L54] at hs
    cases hs
  | succ fuel ih =>
    intro r_fault r_kind r_start r_next r_number r_dice r_bt r_gt d_pips d_many d_berths d_goal n3 hs J
    rw [fX2_readItems_L54] at hs
    refine tg_iload_n C dX2_readItems_54 rfl 3 rfl ?_
    refine tg_aload_n C dX2_readItems_55 rfl 0 rfl ?_
    refine tg_get (v := .int r_length) C cfX2 0 rfl 3 (by decide) wm_126 rfl dX2_readItems_56 ?_
    refine tg_icmp_ge (tgt := 88) C dX2_readItems_59 (by decide) (fun cc12 => ?_) (fun cc12 => ?_)
    · have hs := tg_t cc12 hs
      obtain ⟨rfl, rfl, rfl, rfl, rfl, rfl, rfl, rfl, rfl, rfl, rfl, rfl, rfl⟩ := tg_i13 hs
      exact J
    · have hs := tg_f cc12 hs
      refine tg_aload_n C dX2_readItems_62 rfl 0 rfl ?_
      refine tg_get (v := .int r_kind) C cfX2 0 rfl 4 (by decide) wm_127 rfl dX2_readItems_63 ?_
      refine tg_if_eq (tgt := 88) C dX2_readItems_66 (by decide) (fun cc13 => ?_) (fun cc13 => ?_)
      · have hs := tg_t cc13 hs
        obtain ⟨rfl, rfl, rfl, rfl, rfl, rfl, rfl, rfl, rfl, rfl, rfl, rfl, rfl⟩ := tg_i13 hs
        exact J
      · have hs := tg_f cc13 hs
        refine tg_aload_n C dX2_readItems_69 rfl 0 rfl ?_
        refine tg_get (v := .int r_fault) C cfX2 0 rfl 1 (by decide) wm_123 rfl dX2_readItems_70 ?_
        refine tg_bipush (v := (-9)) C dX2_readItems_73 (by decide) ?_
        refine tg_icmp_ne (tgt := 88) C dX2_readItems_75 (by decide) (fun cc14 => ?_) (fun cc14 => ?_)
        · have hs := tg_t cc14 hs
          obtain ⟨rfl, rfl, rfl, rfl, rfl, rfl, rfl, rfl, rfl, rfl, rfl, rfl, rfl⟩ := tg_i13 hs
          exact J
        · have hs := tg_nf cc14 hs
          refine tg_aload_n C dX2_readItems_78 rfl 0 rfl ?_
          obtain ⟨vv15, vv16, vv17, vv18, vv19, vv20, vv21, vv22, gg23, gg24, vv25, vv26, ee27, hs⟩ := tg_b12_e hs
          refine tg_eVs (ws' := (tw_R D r0 e0 e1 e2 x0 x0 vv15 r_length vv16 vv17 vv18 vv19 vv20 vv21 vv22 gg23 gg24 vv25 vv26 x_text)) (As := []) (rest := []) C V hl0 (kX2_readItem l D r0 e0 e1 e2 x0 r_fault r_length r_kind r_start r_next r_number r_dice r_bt r_gt d_pips d_many d_berths d_goal x_text vv15 vv16 vv17 vv18 vv19 vv20 vv21 vv22 gg23 gg24 vv25 vv26 ee27) wm_316 meX2_readItem (by decide) rfl rfl rfl rfl (Nat.le_of_ble_eq_true rfl) rfl dX2_readItems_79 ?_
          obtain ⟨vv28, evv28, hs⟩ := tg_nm_e hs
          refine tg_iinc (v := vv28) (lv' := [(3, .int vv28), (0, .ref r0), (1, .ref x0), (2, .int n2)]) C dX2_readItems_82 3 rfl (by rw [evv28]; rfl) (by decide) rfl ?_
          refine tg_goto (tgt := 54) C dX2_readItems_85 (by decide) ?_
          refine tg_lsub [1, 2, 3, 0] rfl ?_
          exact ih vv15 vv16 vv17 vv18 vv19 vv20 vv21 vv22 gg23 gg24 vv25 vv26 vv28 hs J
set_option maxHeartbeats 2000000 in
set_option maxRecDepth 20000 in
theorem vX2_readItems (l : Launch) (D : tg_D) (r0 e0 e1 e2 x0 rt : Nat) (r_fault : Int32) (r_length : Int32) (r_kind : Int32) (r_start : Int32) (r_next : Int32) (r_number : Int32) (r_dice : Int32) (r_bt : Int32) (r_gt : Int32) (d_pips : Nat → Int32) (d_many : Nat → Int32) (d_berths : Int32) (d_goal : Int32) (x_text : Nat → Int32) (p2 : Int32) (X : tg_X) (hl0 : tg_l X = l) (C : tg_C X D 4 cX2_readItems RX2 5 106 0 0) (V : tg_V X) (r : Int32) (q_r_fault : Int32) (q_r_length : Int32) (q_r_kind : Int32) (q_r_start : Int32) (q_r_next : Int32) (q_r_number : Int32) (q_r_dice : Int32) (q_r_bt : Int32) (q_r_gt : Int32) (q_d_pips : Nat → Int32) (q_d_many : Nat → Int32) (q_d_berths : Int32) (q_d_goal : Int32) (hs : fX2_readItems r_number d_pips d_many x_text p2 = some (r, q_r_fault, q_r_length, q_r_kind, q_r_start, q_r_next, q_r_number, q_r_dice, q_r_bt, q_r_gt, q_d_pips, q_d_many, q_d_berths, q_d_goal)) (hE : tg_Ei X D 0 0 cX2_readItems .int r (tw_R D r0 e0 e1 e2 x0 x0 q_r_fault q_r_length q_r_kind q_r_start q_r_next q_r_number q_r_dice q_r_bt q_r_gt q_d_pips q_d_many q_d_berths q_d_goal x_text)) : tg_G X D 4 0 0 (tw_R D r0 e0 e1 e2 x0 rt r_fault r_length r_kind r_start r_next r_number r_dice r_bt r_gt d_pips d_many d_berths d_goal x_text) [(0, .ref r0), (1, .ref x0), (2, .int p2)] 0 [] := by
  unfold fX2_readItems at hs
  refine tg_aload_n C dX2_readItems_0 rfl 0 rfl ?_
  refine tg_aload_n C dX2_readItems_1 rfl 1 rfl ?_
  refine tg_put (ws' := (tw_R D r0 e0 e1 e2 x0 x0 r_fault r_length r_kind r_start r_next r_number r_dice r_bt r_gt d_pips d_many d_berths d_goal x_text)) C V cfX2 0 rfl 2 (by decide) wm_125 rfl rfl rfl (Nat.le_of_ble_eq_true rfl) rfl dX2_readItems_2 ?_
  refine tg_aload_n C dX2_readItems_5 rfl 0 rfl ?_
  refine tg_iload_n C dX2_readItems_6 rfl 2 rfl ?_
  refine tg_aload_n C dX2_readItems_7 rfl 1 rfl ?_
  refine tg_alen (v := 120) C 4 2 rfl rfl rfl dX2_readItems_8 ?_
  refine tg_mmin C wm_292 wm_293 wm_68 wm_294 ⟨Nat.le_of_ble_eq_true rfl, Nat.le_of_ble_eq_true rfl, Nat.le_of_ble_eq_true rfl, Nat.le_of_ble_eq_true rfl⟩ dX2_readItems_9 ?_
  obtain ⟨vv1, evv1, hs⟩ := tg_nm_e hs
  refine tg_topi evv1 ?_
  refine tg_put (ws' := (tw_R D r0 e0 e1 e2 x0 x0 r_fault vv1 r_kind r_start r_next r_number r_dice r_bt r_gt d_pips d_many d_berths d_goal x_text)) C V cfX2 0 rfl 3 (by decide) wm_126 rfl rfl rfl (Nat.le_of_ble_eq_true rfl) rfl dX2_readItems_12 ?_
  refine tg_aload_n C dX2_readItems_15 rfl 0 rfl ?_
  refine tg_get (v := .ref e0) C cfX2 0 rfl 0 (by decide) wm_121 rfl dX2_readItems_16 ?_
  obtain ⟨gg2, gg3, vv4, vv5, ee6, hs⟩ := tg_b4_e hs
  refine tg_eV (ws' := (tw_R D r0 e0 e1 e2 x0 x0 r_fault vv1 r_kind r_start r_next r_number r_dice r_bt r_gt gg2 gg3 vv4 vv5 x_text)) (As := []) (rest := []) C V hl0 (kX3_setFirst l D e0 e1 e2 d_pips d_many d_berths d_goal gg2 gg3 vv4 vv5 ee6) wm_295 meX3_setFirst (by decide) [1, 2, 3] rfl (by decide) rfl rfl rfl rfl (Nat.le_of_ble_eq_true rfl) rfl rfl rfl dX2_readItems_19 ?_
  refine tg_aload_n C dX2_readItems_22 rfl 0 rfl ?_
  refine tg_bipush (v := (-9)) C dX2_readItems_23 (by decide) ?_
  refine tg_put (ws' := (tw_R D r0 e0 e1 e2 x0 x0 (-9) vv1 r_kind r_start r_next r_number r_dice r_bt r_gt gg2 gg3 vv4 vv5 x_text)) C V cfX2 0 rfl 1 (by decide) wm_123 rfl rfl rfl (Nat.le_of_ble_eq_true rfl) rfl dX2_readItems_25 ?_
  refine tg_aload_n C dX2_readItems_28 rfl 0 rfl ?_
  refine tg_iconst (v := 0) C dX2_readItems_29 (by decide) ?_
  refine tg_put (ws' := (tw_R D r0 e0 e1 e2 x0 x0 (-9) vv1 r_kind r_start 0 r_number r_dice r_bt r_gt gg2 gg3 vv4 vv5 x_text)) C V cfX2 0 rfl 6 (by decide) wm_129 rfl rfl rfl (Nat.le_of_ble_eq_true rfl) rfl dX2_readItems_30 ?_
  refine tg_aload_n C dX2_readItems_33 rfl 0 rfl ?_
  refine tg_iconst (v := 0) C dX2_readItems_34 (by decide) ?_
  refine tg_put (ws' := (tw_R D r0 e0 e1 e2 x0 x0 (-9) vv1 r_kind r_start 0 r_number 0 r_bt r_gt gg2 gg3 vv4 vv5 x_text)) C V cfX2 0 rfl 8 (by decide) wm_131 rfl rfl rfl (Nat.le_of_ble_eq_true rfl) rfl dX2_readItems_35 ?_
  refine tg_aload_n C dX2_readItems_38 rfl 0 rfl ?_
  refine tg_iconst (v := 0) C dX2_readItems_39 (by decide) ?_
  refine tg_put (ws' := (tw_R D r0 e0 e1 e2 x0 x0 (-9) vv1 r_kind r_start 0 r_number 0 0 r_gt gg2 gg3 vv4 vv5 x_text)) C V cfX2 0 rfl 9 (by decide) wm_132 rfl rfl rfl (Nat.le_of_ble_eq_true rfl) rfl dX2_readItems_40 ?_
  refine tg_aload_n C dX2_readItems_43 rfl 0 rfl ?_
  refine tg_iconst (v := 0) C dX2_readItems_44 (by decide) ?_
  refine tg_put (ws' := (tw_R D r0 e0 e1 e2 x0 x0 (-9) vv1 r_kind r_start 0 r_number 0 0 0 gg2 gg3 vv4 vv5 x_text)) C V cfX2 0 rfl 10 (by decide) wm_133 rfl rfl rfl (Nat.le_of_ble_eq_true rfl) rfl dX2_readItems_45 ?_
  refine tg_aload_n C dX2_readItems_48 rfl 0 rfl ?_
  obtain ⟨vv7, vv8, vv9, vv10, ee11, hs⟩ := tg_b4_e hs
  refine tg_eVs (ws' := (tw_R D r0 e0 e1 e2 x0 x0 (-9) vv1 vv7 vv8 vv9 vv10 0 0 0 gg2 gg3 vv4 vv5 x_text)) (As := []) (rest := []) C V hl0 (kX2_advance l D r0 e0 e1 e2 x0 (-9) vv1 r_kind r_start 0 r_number 0 0 0 gg2 gg3 vv4 vv5 x_text vv7 vv8 vv9 vv10 ee11) wm_296 meX2_advance (by decide) rfl rfl rfl rfl (Nat.le_of_ble_eq_true rfl) rfl dX2_readItems_49 ?_
  refine tg_iconst (v := 0) C dX2_readItems_52 (by decide) ?_
  refine tg_istore_n (lv' := [(3, .int 0), (0, .ref r0), (1, .ref x0), (2, .int p2)]) C dX2_readItems_53 rfl (by decide) rfl ?_
  refine tg_lsub [1, 2, 3, 0] rfl ?_
  obtain ⟨vv29, vv30, vv31, vv32, vv33, vv34, vv35, vv36, vv37, vv38, vv39, vv40, vv41, ee42, hs⟩ := tg_b13_e hs
  refine vX2_readItems_L54 l D r0 e0 e1 e2 x0 x0 vv1 x_text p2 X hl0 C V vv29 vv30 vv31 vv32 vv33 vv34 vv35 vv36 vv37 vv38 vv39 vv40 vv41 400 (-9) vv7 vv8 vv9 vv10 0 0 0 gg2 gg3 vv4 vv5 0 ee42 ?_
  refine tg_iload_n C dX2_readItems_88 rfl 3 rfl ?_
  obtain ⟨rfl, rfl, rfl, rfl, rfl, rfl, rfl, rfl, rfl, rfl, rfl, rfl, rfl, rfl⟩ := tg_i14 hs
  exact tg_iret hE rfl dX2_readItems_89
set_option maxHeartbeats 2000000 in
set_option maxRecDepth 20000 in
theorem kX2_readItems (l : Launch) (D : tg_D) (r0 e0 e1 e2 x0 rt : Nat) (r_fault : Int32) (r_length : Int32) (r_kind : Int32) (r_start : Int32) (r_next : Int32) (r_number : Int32) (r_dice : Int32) (r_bt : Int32) (r_gt : Int32) (d_pips : Nat → Int32) (d_many : Nat → Int32) (d_berths : Int32) (d_goal : Int32) (x_text : Nat → Int32) (p2 : Int32) (r : Int32) (q_r_fault : Int32) (q_r_length : Int32) (q_r_kind : Int32) (q_r_start : Int32) (q_r_next : Int32) (q_r_number : Int32) (q_r_dice : Int32) (q_r_bt : Int32) (q_r_gt : Int32) (q_d_pips : Nat → Int32) (q_d_many : Nat → Int32) (q_d_berths : Int32) (q_d_goal : Int32) (hs : fX2_readItems r_number d_pips d_many x_text p2 = some (r, q_r_fault, q_r_length, q_r_kind, q_r_start, q_r_next, q_r_number, q_r_dice, q_r_bt, q_r_gt, q_d_pips, q_d_many, q_d_berths, q_d_goal)) : Met l yX2_readItems [Cond.code yX2_readItems cX2_readItems 4 (some .int)] (tg_rm 5 106) (tg_Pre D (tw_R D r0 e0 e1 e2 x0 rt r_fault r_length r_kind r_start r_next r_number r_dice r_bt r_gt d_pips d_many d_berths d_goal x_text) [.ref r0, .ref x0, .int p2]) (tg_Qe (some (.int r)) D (tw_R D r0 e0 e1 e2 x0 x0 q_r_fault q_r_length q_r_kind q_r_start q_r_next q_r_number q_r_dice q_r_bt q_r_gt q_d_pips q_d_many q_d_berths q_d_goal x_text) (tg_Ad (tw_R D r0 e0 e1 e2 x0 rt r_fault r_length r_kind r_start r_next r_number r_dice r_bt r_gt d_pips d_many d_berths d_goal x_text))) 0 0 (tg_Ad (tw_R D r0 e0 e1 e2 x0 rt r_fault r_length r_kind r_start r_next r_number r_dice r_bt r_gt d_pips d_many d_berths d_goal x_text)) := tg_metEi (by decide) (Nat.le_of_ble_eq_true rfl) (fun X hl0 C V hE => vX2_readItems l D r0 e0 e1 e2 x0 rt r_fault r_length r_kind r_start r_next r_number r_dice r_bt r_gt d_pips d_many d_berths d_goal x_text p2 X hl0 C V r q_r_fault q_r_length q_r_kind q_r_start q_r_next q_r_number q_r_dice q_r_bt q_r_gt q_d_pips q_d_many q_d_berths q_d_goal hs hE)
