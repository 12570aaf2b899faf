def fX0_manyStill_L5 (a_calm : Nat → Int32) (a_windy : Nat → Int32) (a_many : Int32) (n1 : Int32) (n2 : Int32) : Nat → Int32 → Int32 → Option (Int32 × Int32)
  | 0, _, _ => none
  | fuel + 1, n3, n4 => if a_many ≤ n4 then (some (n3, n4)) else (tg_b1 (fX0_opensStill a_calm a_windy n4 n2) fun rr2 => tg_b1 (fX4_hasBit rr2 n1) fun rr4 => tg_b1 (if rr4 = 0 then (some n3) else (tg_nm (n3 + 1) fun vv9 => some vv9)) fun (vv7 : Int32) => tg_nm (n4 + 1) fun vv10 => fX0_manyStill_L5 a_calm a_windy a_many n1 n2 fuel vv7 vv10)
def fX0_manyStill (a_calm : Nat → Int32) (a_windy : Nat → Int32) (a_many : Int32) (p1 : Int32) (p2 : Int32) : Option (Int32) := tg_b2 (fX0_manyStill_L5 a_calm a_windy a_many p1 p2 400 0 0) fun vv12 vv13 => some vv12
set_option maxHeartbeats 2000000 in
set_option maxRecDepth 20000 in
theorem vX0_manyStill_L5 (l : Launch) (D : tg_D) (b0 b1 b2 b3 b4 : Nat) (a_shown : Nat → Int32) (a_calm : Nat → Int32) (a_windy : Nat → Int32) (a_turns : Nat → Int32) (a_many : Int32) (a_ever : Int32) (n1 : Int32) (n2 : Int32) (X : tg_X) (hl0 : tg_l X = l) (C : tg_C X D 5 cX0_manyStill RX0 2 41 0 0) (o_n3 : Int32) (o_n4 : Int32) : ∀ (fuel : Nat) (n3 : Int32) (n4 : Int32), fX0_manyStill_L5 a_calm a_windy a_many n1 n2 fuel n3 n4 = some (o_n3, o_n4) → tg_G X D 5 0 0 (tw_A D b0 b1 b2 b3 b4 a_shown a_calm a_windy a_turns a_many a_ever) [(0, .ref b0), (1, .int n1), (2, .int n2), (3, .int o_n3), (4, .int o_n4)] 37 [] → tg_G X D 5 0 0 (tw_A D b0 b1 b2 b3 b4 a_shown a_calm a_windy a_turns a_many a_ever) [(0, .ref b0), (1, .int n1), (2, .int n2), (3, .int n3), (4, .int n4)] 5 [] := by
  intro fuel
  induction fuel with
  | zero =>
    intro n3 n4 hs _
    rw [fX0_manyStill_L5] at hs
    cases hs
  | succ fuel ih =>
    intro n3 n4 hs J
    rw [fX0_manyStill_L5] at hs
    refine tg_iload C dX0_manyStill_5 4 rfl ?_
    refine tg_aload_n C dX0_manyStill_7 rfl 0 rfl ?_
    refine tg_get (v := .int a_many) C cfX0 0 rfl 4 (by decide) wm_167 rfl dX0_manyStill_8 ?_
    refine tg_icmp_ge (tgt := 37) C dX0_manyStill_11 (by decide) (fun cc1 => ?_) (fun cc1 => ?_)
    · have hs := tg_t cc1 hs
      obtain ⟨rfl, rfl⟩ := tg_i2 hs
      exact J
    · have hs := tg_f cc1 hs
      refine tg_aload_n C dX0_manyStill_14 rfl 0 rfl ?_
      refine tg_iload C dX0_manyStill_15 4 rfl ?_
      refine tg_iload_n C dX0_manyStill_17 rfl 2 rfl ?_
      obtain ⟨rr2, ee3, hs⟩ := tg_b1_e hs
      refine tg_pVs (As := [.int n4, .int n2]) (rest := []) C hl0 (kX0_opensStill l D b0 b1 b2 b3 b4 a_shown a_calm a_windy a_turns a_many a_ever n4 n2 rr2 ee3) wm_535 meX0_opensStill (by decide) rfl rfl rfl rfl (Nat.le_of_ble_eq_true rfl) dX0_manyStill_18 ?_
      refine tg_iload_n C dX0_manyStill_21 rfl 1 rfl ?_
      obtain ⟨rr4, ee5, hs⟩ := tg_b1_e hs
      refine tg_pN (As := [.int rr2, .int n1]) (rest := []) C hl0 (kX4_hasBit l D rr2 n1 rr4 ee5) wm_607 meX4_hasBit (by decide) rfl rfl (Nat.le_of_ble_eq_true rfl) dX0_manyStill_22 ?_
      obtain ⟨vv7, ee11, hs⟩ := tg_b1_e hs
      have JJ8 : tg_G X D 5 0 0 (tw_A D b0 b1 b2 b3 b4 a_shown a_calm a_windy a_turns a_many a_ever) [(0, .ref b0), (1, .int n1), (2, .int n2), (3, .int vv7), (4, .int n4)] 31 [] := by
        obtain ⟨vv10, evv10, hs⟩ := tg_nm_e hs
        refine tg_iinc (v := vv10) (lv' := [(4, .int vv10), (0, .ref b0), (1, .int n1), (2, .int n2), (3, .int vv7)]) C dX0_manyStill_31 4 rfl (by rw [evv10]; rfl) (by decide) rfl ?_
        refine tg_goto (tgt := 5) C dX0_manyStill_34 (by decide) ?_
        refine tg_lsub [1, 2, 3, 4, 0] rfl ?_
        exact ih vv7 vv10 hs J
      have hs := ee11
      clear ee11
      refine tg_if_eq (tgt := 31) C dX0_manyStill_25 (by decide) (fun cc6 => ?_) (fun cc6 => ?_)
      · have hs := tg_t cc6 hs
        obtain rfl := Option.some.inj hs
        exact JJ8
      · have hs := tg_f cc6 hs
        obtain ⟨vv9, evv9, hs⟩ := tg_nm_e hs
        refine tg_iinc (v := vv9) (lv' := [(3, .int vv9), (0, .ref b0), (1, .int n1), (2, .int n2), (4, .int n4)]) C dX0_manyStill_28 3 rfl (by rw [evv9]; rfl) (by decide) rfl ?_
        obtain rfl := Option.some.inj hs
        refine tg_lsub [1, 2, 3, 0, 4] rfl ?_
        exact JJ8
set_option maxHeartbeats 2000000 in
set_option maxRecDepth 20000 in
theorem vX0_manyStill (l : Launch) (D : tg_D) (b0 b1 b2 b3 b4 : Nat) (a_shown : Nat → Int32) (a_calm : Nat → Int32) (a_windy : Nat → Int32) (a_turns : Nat → Int32) (a_many : Int32) (a_ever : Int32) (p1 : Int32) (p2 : Int32) (X : tg_X) (hl0 : tg_l X = l) (C : tg_C X D 5 cX0_manyStill RX0 2 41 0 0) (r : Int32) (hs : fX0_manyStill a_calm a_windy a_many p1 p2 = some r) (hE : tg_Ei X D 0 0 cX0_manyStill .int r (tw_A D b0 b1 b2 b3 b4 a_shown a_calm a_windy a_turns a_many a_ever)) : tg_G X D 5 0 0 (tw_A D b0 b1 b2 b3 b4 a_shown a_calm a_windy a_turns a_many a_ever) [(0, .ref b0), (1, .int p1), (2, .int p2)] 0 [] := by
  unfold fX0_manyStill at hs
  refine tg_iconst (v := 0) C dX0_manyStill_0 (by decide) ?_
  refine tg_istore_n (lv' := [(3, .int 0), (0, .ref b0), (1, .int p1), (2, .int p2)]) C dX0_manyStill_1 rfl (by decide) rfl ?_
  refine tg_iconst (v := 0) C dX0_manyStill_2 (by decide) ?_
  refine tg_istore (lv' := [(4, .int 0), (3, .int 0), (0, .ref b0), (1, .int p1), (2, .int p2)]) C dX0_manyStill_3 (by decide) rfl ?_
  refine tg_lsub [2, 3, 4, 1, 0] rfl ?_
  obtain ⟨vv12, vv13, ee14, hs⟩ := tg_b2_e hs
  refine vX0_manyStill_L5 l D b0 b1 b2 b3 b4 a_shown a_calm a_windy a_turns a_many a_ever p1 p2 X hl0 C vv12 vv13 400 0 0 ee14 ?_
  refine tg_iload_n C dX0_manyStill_37 rfl 3 rfl ?_
  obtain rfl := Option.some.inj hs
  exact tg_iret hE rfl dX0_manyStill_38
set_option maxHeartbeats 2000000 in
set_option maxRecDepth 20000 in
theorem kX0_manyStill (l : Launch) (D : tg_D) (b0 b1 b2 b3 b4 : Nat) (a_shown : Nat → Int32) (a_calm : Nat → Int32) (a_windy : Nat → Int32) (a_turns : Nat → Int32) (a_many : Int32) (a_ever : Int32) (p1 : Int32) (p2 : Int32) (r : Int32) (hs : fX0_manyStill a_calm a_windy a_many p1 p2 = some r) : Met l yX0_manyStill [Cond.code yX0_manyStill cX0_manyStill 5 (some .int)] (tg_rm 2 41) (tg_Pre D (tw_A D b0 b1 b2 b3 b4 a_shown a_calm a_windy a_turns a_many a_ever) [.ref b0, .int p1, .int p2]) (vp_Si (fun r' => r' = r)) 0 0 (fun _ => False) := tg_metI (by decide) (Nat.le_of_ble_eq_true rfl) (fun X hl0 C hE => vX0_manyStill l D b0 b1 b2 b3 b4 a_shown a_calm a_windy a_turns a_many a_ever p1 p2 X hl0 C r hs hE)
def fX0_firstStill_L2 (a_shown : Nat → Int32) (a_calm : Nat → Int32) (a_windy : Nat → Int32) (a_many : Int32) (n1 : Int32) (n2 : Int32) : Nat → Int32 → Option (Int32)
  | 0, _ => none
  | fuel + 1, n3 => if a_many ≤ n3 then (some (-9)) else (tg_b1 (fX0_opensStill a_calm a_windy n3 n2) fun rr2 => tg_b1 (fX4_hasBit rr2 n1) fun rr4 => if rr4 = 0 then (tg_nm (n3 + 1) fun vv7 => fX0_firstStill_L2 a_shown a_calm a_windy a_many n1 n2 fuel vv7) else (tg_ck n3 216 <| some (a_shown (Int32.toNatClampNeg n3))))
def fX0_firstStill (a_shown : Nat → Int32) (a_calm : Nat → Int32) (a_windy : Nat → Int32) (a_many : Int32) (p1 : Int32) (p2 : Int32) : Option (Int32) := fX0_firstStill_L2 a_shown a_calm a_windy a_many p1 p2 400 0
set_option maxHeartbeats 2000000 in
set_option maxRecDepth 20000 in
theorem vX0_firstStill_L2 (l : Launch) (D : tg_D) (b0 b1 b2 b3 b4 : Nat) (a_shown : Nat → Int32) (a_calm : Nat → Int32) (a_windy : Nat → Int32) (a_turns : Nat → Int32) (a_many : Int32) (a_ever : Int32) (n1 : Int32) (n2 : Int32) (X : tg_X) (hl0 : tg_l X = l) (C : tg_C X D 4 cX0_firstStill RX0 2 41 0 0) (r : Int32) (hE : tg_Ei X D 0 0 cX0_firstStill .int r (tw_A D b0 b1 b2 b3 b4 a_shown a_calm a_windy a_turns a_many a_ever)) : ∀ (fuel : Nat) (n3 : Int32), fX0_firstStill_L2 a_shown a_calm a_windy a_many n1 n2 fuel n3 = some r → tg_G X D 4 0 0 (tw_A D b0 b1 b2 b3 b4 a_shown a_calm a_windy a_turns a_many a_ever) [(0, .ref b0), (1, .int n1), (2, .int n2), (3, .int n3)] 2 [] := by
  intro fuel
  induction fuel with
  | zero =>
    intro n3 hs
    rw [fX0_firstStill_L2] at hs
    cases hs
  | succ fuel ih =>
    intro n3 hs
    rw [fX0_firstStill_L2] at hs
    refine tg_iload_n C dX0_firstStill_2 rfl 3 rfl ?_
    refine tg_aload_n C dX0_firstStill_3 rfl 0 rfl ?_
    refine tg_get (v := .int a_many) C cfX0 0 rfl 4 (by decide) wm_167 rfl dX0_firstStill_4 ?_
    refine tg_icmp_ge (tgt := 36) C dX0_firstStill_7 (by decide) (fun cc1 => ?_) (fun cc1 => ?_)
    · have hs := tg_t cc1 hs
      refine tg_bipush (v := (-9)) C dX0_firstStill_36 (by decide) ?_
      obtain rfl := Option.some.inj hs
      exact tg_iret hE rfl dX0_firstStill_38
    · have hs := tg_f cc1 hs
      refine tg_aload_n C dX0_firstStill_10 rfl 0 rfl ?_
      refine tg_iload_n C dX0_firstStill_11 rfl 3 rfl ?_
      refine tg_iload_n C dX0_firstStill_12 rfl 2 rfl ?_
      obtain ⟨rr2, ee3, hs⟩ := tg_b1_e hs
      refine tg_pVs (As := [.int n3, .int n2]) (rest := []) C hl0 (kX0_opensStill l D b0 b1 b2 b3 b4 a_shown a_calm a_windy a_turns a_many a_ever n3 n2 rr2 ee3) wm_535 meX0_opensStill (by decide) rfl rfl rfl rfl (Nat.le_of_ble_eq_true rfl) dX0_firstStill_13 ?_
      refine tg_iload_n C dX0_firstStill_16 rfl 1 rfl ?_
      obtain ⟨rr4, ee5, hs⟩ := tg_b1_e hs
      refine tg_pN (As := [.int rr2, .int n1]) (rest := []) C hl0 (kX4_hasBit l D rr2 n1 rr4 ee5) wm_607 meX4_hasBit (by decide) rfl rfl (Nat.le_of_ble_eq_true rfl) dX0_firstStill_17 ?_
      refine tg_if_eq (tgt := 30) C dX0_firstStill_20 (by decide) (fun cc6 => ?_) (fun cc6 => ?_)
      · have hs := tg_t cc6 hs
        obtain ⟨vv7, evv7, hs⟩ := tg_nm_e hs
        refine tg_iinc (v := vv7) (lv' := [(3, .int vv7), (0, .ref b0), (1, .int n1), (2, .int n2)]) C dX0_firstStill_30 3 rfl (by rw [evv7]; rfl) (by decide) rfl ?_
        refine tg_goto (tgt := 2) C dX0_firstStill_33 (by decide) ?_
        refine tg_lsub [1, 2, 3, 0] rfl ?_
        exact ih vv7 hs
      · have hs := tg_f cc6 hs
        refine tg_aload_n C dX0_firstStill_23 rfl 0 rfl ?_
        refine tg_get (v := .ref b1) C cfX0 0 rfl 0 (by decide) wm_163 rfl dX0_firstStill_24 ?_
        refine tg_iload_n C dX0_firstStill_27 rfl 3 rfl ?_
        obtain ⟨hh8, hs⟩ := tg_ck_e hs
        refine tg_iald C 1 0 rfl rfl hh8 dX0_firstStill_28 ?_
        obtain rfl := Option.some.inj hs
        exact tg_iret hE rfl dX0_firstStill_29
set_option maxHeartbeats 2000000 in
set_option maxRecDepth 20000 in
theorem vX0_firstStill (l : Launch) (D : tg_D) (b0 b1 b2 b3 b4 : Nat) (a_shown : Nat → Int32) (a_calm : Nat → Int32) (a_windy : Nat → Int32) (a_turns : Nat → Int32) (a_many : Int32) (a_ever : Int32) (p1 : Int32) (p2 : Int32) (X : tg_X) (hl0 : tg_l X = l) (C : tg_C X D 4 cX0_firstStill RX0 2 41 0 0) (r : Int32) (hs : fX0_firstStill a_shown a_calm a_windy a_many p1 p2 = some r) (hE : tg_Ei X D 0 0 cX0_firstStill .int r (tw_A D b0 b1 b2 b3 b4 a_shown a_calm a_windy a_turns a_many a_ever)) : tg_G X D 4 0 0 (tw_A D b0 b1 b2 b3 b4 a_shown a_calm a_windy a_turns a_many a_ever) [(0, .ref b0), (1, .int p1), (2, .int p2)] 0 [] := by
  unfold fX0_firstStill at hs
  refine tg_iconst (v := 0) C dX0_firstStill_0 (by decide) ?_
  refine tg_istore_n (lv' := [(3, .int 0), (0, .ref b0), (1, .int p1), (2, .int p2)]) C dX0_firstStill_1 rfl (by decide) rfl ?_
  refine tg_lsub [1, 2, 3, 0] rfl ?_
  exact vX0_firstStill_L2 l D b0 b1 b2 b3 b4 a_shown a_calm a_windy a_turns a_many a_ever p1 p2 X hl0 C r hE 400 0 hs
set_option maxHeartbeats 2000000 in
set_option maxRecDepth 20000 in
theorem kX0_firstStill (l : Launch) (D : tg_D) (b0 b1 b2 b3 b4 : Nat) (a_shown : Nat → Int32) (a_calm : Nat → Int32) (a_windy : Nat → Int32) (a_turns : Nat → Int32) (a_many : Int32) (a_ever : Int32) (p1 : Int32) (p2 : Int32) (r : Int32) (hs : fX0_firstStill a_shown a_calm a_windy a_many p1 p2 = some r) : Met l yX0_firstStill [Cond.code yX0_firstStill cX0_firstStill 4 (some .int)] (tg_rm 2 41) (tg_Pre D (tw_A D b0 b1 b2 b3 b4 a_shown a_calm a_windy a_turns a_many a_ever) [.ref b0, .int p1, .int p2]) (vp_Si (fun r' => r' = r)) 0 0 (fun _ => False) := tg_metI (by decide) (Nat.le_of_ble_eq_true rfl) (fun X hl0 C hE => vX0_firstStill l D b0 b1 b2 b3 b4 a_shown a_calm a_windy a_turns a_many a_ever p1 p2 X hl0 C r hs hE)
def fX3_setFirst_L9 (n1 : Int32) : Nat → (Nat → Int32) → Int32 → Option ((Nat → Int32) × Int32)
  | 0, _, _ => none
  | fuel + 1, t_pips, n2 => if 6 ≤ n2 then (some (t_pips, n2)) else (tg_nm (n2 + 1) fun vv3 => tg_ck ((n1 * 6) + n2) 18 <| tg_nm (upd t_pips (Int32.toNatClampNeg ((n1 * 6) + n2)) vv3) fun gg4 => tg_nm (n2 + 1) fun vv6 => fX3_setFirst_L9 n1 fuel gg4 vv6)
def fX3_setFirst_L2 : Nat → (Nat → Int32) → (Nat → Int32) → Int32 → Option ((Nat → Int32) × (Nat → Int32) × Int32)
  | 0, _, _, _ => none
  | fuel + 1, t_pips, t_many, n1 => if 3 ≤ n1 then (some (t_pips, t_many, n1)) else (tg_b2 (fX3_setFirst_L9 n1 400 t_pips 0) fun vv7 vv8 => tg_ck n1 3 <| tg_nm (upd t_many (Int32.toNatClampNeg n1) 6) fun gg10 => tg_nm (n1 + 1) fun vv12 => fX3_setFirst_L2 fuel vv7 gg10 vv12)
def fX3_setFirst (t_pips : Nat → Int32) (t_many : Nat → Int32) : Option ((Nat → Int32) × (Nat → Int32) × Int32 × Int32) := tg_b3 (fX3_setFirst_L2 400 t_pips t_many 0) fun vv13 vv14 vv15 => some (vv13, vv14, 12, 4)
set_option maxHeartbeats 2000000 in
set_option maxRecDepth 20000 in
theorem vX3_setFirst_L9 (l : Launch) (D : tg_D) (t0 t1 t2 : Nat) (t_many : Nat → Int32) (t_berths : Int32) (t_goal : Int32) (n1 : Int32) (X : tg_X) (hl0 : tg_l X = l) (C : tg_C X D 3 cX3_setFirst RX3 0 0 0 0) (V : tg_V X) (o_t_pips : Nat → Int32) (o_n2 : Int32) : ∀ (fuel : Nat) (t_pips : Nat → Int32) (n2 : Int32), fX3_setFirst_L9 n1 fuel t_pips n2 = some (o_t_pips, o_n2) → tg_G X D 3 0 0 (tw_T D t0 t1 t2 o_t_pips t_many t_berths t_goal) [(0, .ref t0), (1, .int n1), (2, .int o_n2)] 35 [] → tg_G X D 3 0 0 (tw_T D t0 t1 t2 t_pips t_many t_berths t_goal) [(0, .ref t0), (1, .int n1), (2, .int n2)] 9 [] := by
  intro fuel
  induction fuel with
  | zero =>
    intro t_pips n2 hs _
    rw [fX3_setFirst_L9] at hs
    cases hs
  | succ fuel ih =>
    intro t_pips n2 hs J
    rw [fX3_setFirst_L9] at hs
    refine tg_iload_n C dX3_setFirst_9 rfl 2 rfl ?_
    refine tg_bipush (v := 6) C dX3_setFirst_10 (by decide) ?_
    refine tg_icmp_ge (tgt := 35) C dX3_setFirst_12 (by decide) (fun cc2 => ?_) (fun cc2 => ?_)
    · have hs := tg_t cc2 hs
      obtain ⟨rfl, rfl⟩ := tg_i2 hs
      exact J
    · have hs := tg_f cc2 hs
      refine tg_aload_n C dX3_setFirst_15 rfl 0 rfl ?_
      refine tg_get (v := .ref t1) C cfX3 0 rfl 0 (by decide) wm_89 rfl dX3_setFirst_16 ?_
      refine tg_iload_n C dX3_setFirst_19 rfl 1 rfl ?_
      refine tg_bipush (v := 6) C dX3_setFirst_20 (by decide) ?_
      refine tg_imul C dX3_setFirst_22 ?_
      refine tg_iload_n C dX3_setFirst_23 rfl 2 rfl ?_
      refine tg_iadd C dX3_setFirst_24 ?_
      refine tg_iload_n C dX3_setFirst_25 rfl 2 rfl ?_
      refine tg_iconst (v := 1) C dX3_setFirst_26 (by decide) ?_
      refine tg_iadd C dX3_setFirst_27 ?_
      obtain ⟨vv3, evv3, hs⟩ := tg_nm_e hs
      refine tg_topi evv3 ?_
      obtain ⟨hh5, hs⟩ := tg_ck_e hs
      obtain ⟨gg4, egg4, hs⟩ := tg_nm_e hs
      refine tg_iast (ws' := (tw_T D t0 t1 t2 gg4 t_many t_berths t_goal)) C V 1 0 rfl rfl hh5 egg4 rfl dX3_setFirst_28 ?_
      obtain ⟨vv6, evv6, hs⟩ := tg_nm_e hs
      refine tg_iinc (v := vv6) (lv' := [(2, .int vv6), (0, .ref t0), (1, .int n1)]) C dX3_setFirst_29 2 rfl (by rw [evv6]; rfl) (by decide) rfl ?_
      refine tg_goto (tgt := 9) C dX3_setFirst_32 (by decide) ?_
      refine tg_lsub [1, 2, 0] rfl ?_
      exact ih gg4 vv6 hs J
set_option maxHeartbeats 2000000 in
set_option maxRecDepth 20000 in
theorem vX3_setFirst_L2 (l : Launch) (D : tg_D) (t0 t1 t2 : Nat) (t_berths : Int32) (t_goal : Int32) (X : tg_X) (hl0 : tg_l X = l) (C : tg_C X D 3 cX3_setFirst RX3 0 0 0 0) (V : tg_V X) (o_t_pips : Nat → Int32) (o_t_many : Nat → Int32) (o_n1 : Int32) : ∀ (fuel : Nat) (t_pips : Nat → Int32) (t_many : Nat → Int32) (n1 : Int32), fX3_setFirst_L2 fuel t_pips t_many n1 = some (o_t_pips, o_t_many, o_n1) → tg_G X D 3 0 0 (tw_T D t0 t1 t2 o_t_pips o_t_many t_berths t_goal) [(0, .ref t0), (1, .int o_n1)] 49 [] → tg_G X D 3 0 0 (tw_T D t0 t1 t2 t_pips t_many t_berths t_goal) [(0, .ref t0), (1, .int n1)] 2 [] := by
  intro fuel
  induction fuel with
  | zero =>
    intro t_pips t_many n1 hs _
    rw [fX3_setFirst_L2] at hs
    cases hs
  | succ fuel ih =>
    intro t_pips t_many n1 hs J
    rw [fX3_setFirst_L2] at hs
    refine tg_iload_n C dX3_setFirst_2 rfl 1 rfl ?_
    refine tg_iconst (v := 3) C dX3_setFirst_3 (by decide) ?_
    refine tg_icmp_ge (tgt := 49) C dX3_setFirst_4 (by decide) (fun cc1 => ?_) (fun cc1 => ?_)
    · have hs := tg_t cc1 hs
      obtain ⟨rfl, rfl, rfl⟩ := tg_i3 hs
      exact J
    · have hs := tg_f cc1 hs
      refine tg_iconst (v := 0) C dX3_setFirst_7 (by decide) ?_
      refine tg_istore_n (lv' := [(2, .int 0), (0, .ref t0), (1, .int n1)]) C dX3_setFirst_8 rfl (by decide) rfl ?_
      refine tg_lsub [1, 2, 0] rfl ?_
      obtain ⟨vv7, vv8, ee9, hs⟩ := tg_b2_e hs
      refine vX3_setFirst_L9 l D t0 t1 t2 t_many t_berths t_goal n1 X hl0 C V vv7 vv8 400 t_pips 0 ee9 ?_
      refine tg_aload_n C dX3_setFirst_35 rfl 0 rfl ?_
      refine tg_get (v := .ref t2) C cfX3 0 rfl 1 (by decide) wm_91 rfl dX3_setFirst_36 ?_
      refine tg_iload_n C dX3_setFirst_39 rfl 1 rfl ?_
      refine tg_bipush (v := 6) C dX3_setFirst_40 (by decide) ?_
      obtain ⟨hh11, hs⟩ := tg_ck_e hs
      obtain ⟨gg10, egg10, hs⟩ := tg_nm_e hs
      refine tg_iast (ws' := (tw_T D t0 t1 t2 vv7 gg10 t_berths t_goal)) C V 2 0 rfl rfl hh11 egg10 rfl dX3_setFirst_42 ?_
      obtain ⟨vv12, evv12, hs⟩ := tg_nm_e hs
      refine tg_iinc (v := vv12) (lv' := [(1, .int vv12), (0, .ref t0), (2, .int vv8)]) C dX3_setFirst_43 1 rfl (by rw [evv12]; rfl) (by decide) rfl ?_
      refine tg_goto (tgt := 2) C dX3_setFirst_46 (by decide) ?_
      refine tg_lsub [1, 0] rfl ?_
      exact ih vv7 gg10 vv12 hs J
set_option maxHeartbeats 2000000 in
set_option maxRecDepth 20000 in
theorem vX3_setFirst (l : Launch) (D : tg_D) (t0 t1 t2 : Nat) (t_pips : Nat → Int32) (t_many : Nat → Int32) (t_berths : Int32) (t_goal : Int32) (X : tg_X) (hl0 : tg_l X = l) (C : tg_C X D 3 cX3_setFirst RX3 0 0 0 0) (V : tg_V X) (q_t_pips : Nat → Int32) (q_t_many : Nat → Int32) (q_t_berths : Int32) (q_t_goal : Int32) (hs : fX3_setFirst t_pips t_many = some (q_t_pips, q_t_many, q_t_berths, q_t_goal)) (hE : tg_Ev X D 0 0 cX3_setFirst (tw_T D t0 t1 t2 q_t_pips q_t_many q_t_berths q_t_goal)) : tg_G X D 3 0 0 (tw_T D t0 t1 t2 t_pips t_many t_berths t_goal) [(0, .ref t0)] 0 [] := by
  unfold fX3_setFirst at hs
  refine tg_iconst (v := 0) C dX3_setFirst_0 (by decide) ?_
  refine tg_istore_n (lv' := [(1, .int 0), (0, .ref t0)]) C dX3_setFirst_1 rfl (by decide) rfl ?_
  refine tg_lsub [1, 0] rfl ?_
  obtain ⟨vv13, vv14, vv15, ee16, hs⟩ := tg_b3_e hs
  refine vX3_setFirst_L2 l D t0 t1 t2 t_berths t_goal X hl0 C V vv13 vv14 vv15 400 t_pips t_many 0 ee16 ?_
  refine tg_aload_n C dX3_setFirst_49 rfl 0 rfl ?_
  refine tg_bipush (v := 12) C dX3_setFirst_50 (by decide) ?_
  refine tg_put (ws' := (tw_T D t0 t1 t2 vv13 vv14 12 t_goal)) C V cfX3 0 rfl 2 (by decide) wm_95 rfl rfl rfl (Nat.le_of_ble_eq_true rfl) rfl dX3_setFirst_52 ?_
  refine tg_aload_n C dX3_setFirst_55 rfl 0 rfl ?_
  refine tg_iconst (v := 4) C dX3_setFirst_56 (by decide) ?_
  refine tg_put (ws' := (tw_T D t0 t1 t2 vv13 vv14 12 4)) C V cfX3 0 rfl 3 (by decide) wm_98 rfl rfl rfl (Nat.le_of_ble_eq_true rfl) rfl dX3_setFirst_57 ?_
  obtain ⟨rfl, rfl, rfl, rfl⟩ := tg_i4 hs
  exact tg_vret hE dX3_setFirst_60
set_option maxHeartbeats 2000000 in
set_option maxRecDepth 20000 in
theorem kX3_setFirst (l : Launch) (D : tg_D) (t0 t1 t2 : Nat) (t_pips : Nat → Int32) (t_many : Nat → Int32) (t_berths : Int32) (t_goal : Int32) (q_t_pips : Nat → Int32) (q_t_many : Nat → Int32) (q_t_berths : Int32) (q_t_goal : Int32) (hs : fX3_setFirst t_pips t_many = some (q_t_pips, q_t_many, q_t_berths, q_t_goal)) : Met l yX3_setFirst [Cond.code yX3_setFirst cX3_setFirst 3 none] (tg_rm 0 0) (tg_Pre D (tw_T D t0 t1 t2 t_pips t_many t_berths t_goal) [.ref t0]) (tg_Qe none D (tw_T D t0 t1 t2 q_t_pips q_t_many q_t_berths q_t_goal) (tg_Ad (tw_T D t0 t1 t2 t_pips t_many t_berths t_goal))) 0 0 (tg_Ad (tw_T D t0 t1 t2 t_pips t_many t_berths t_goal)) := tg_metEv (by decide) (Nat.le_of_ble_eq_true rfl) (fun X hl0 C V hE => vX3_setFirst l D t0 t1 t2 t_pips t_many t_berths t_goal X hl0 C V q_t_pips q_t_many q_t_berths q_t_goal hs hE)
def fX3_becomes (t_pips : Nat → Int32) (t_many : Nat → Int32) (d_pips : Nat → Int32) (d_many : Nat → Int32) (d_berths : Int32) (d_goal : Int32) : Option ((Nat → Int32) × (Nat → Int32) × Int32 × Int32) := tg_cp 0 0 18 18 18 <| tg_nm (va_cpy d_pips t_pips (Int32.toNatClampNeg 0) (Int32.toNatClampNeg 0) (Int32.toNatClampNeg 18)) fun gg2 => tg_cp 0 0 3 3 3 <| tg_nm (va_cpy d_many t_many (Int32.toNatClampNeg 0) (Int32.toNatClampNeg 0) (Int32.toNatClampNeg 3)) fun gg4 => some (gg2, gg4, d_berths, d_goal)
set_option maxHeartbeats 2000000 in
set_option maxRecDepth 20000 in
theorem vX3_becomes (l : Launch) (D : tg_D) (t0 t1 t2 e0 e1 e2 : Nat) (t_pips : Nat → Int32) (t_many : Nat → Int32) (t_berths : Int32) (t_goal : Int32) (d_pips : Nat → Int32) (d_many : Nat → Int32) (d_berths : Int32) (d_goal : Int32) (X : tg_X) (hl0 : tg_l X = l) (C : tg_C X D 2 cX3_becomes RX3 1 18 0 0) (V : tg_V X) (q_t_pips : Nat → Int32) (q_t_many : Nat → Int32) (q_t_berths : Int32) (q_t_goal : Int32) (hs : fX3_becomes t_pips t_many d_pips d_many d_berths d_goal = some (q_t_pips, q_t_many, q_t_berths, q_t_goal)) (hE : tg_Ev X D 0 0 cX3_becomes (tw_TT D t0 t1 t2 e0 e1 e2 q_t_pips q_t_many q_t_berths q_t_goal d_pips d_many d_berths d_goal)) : tg_G X D 2 0 0 (tw_TT D t0 t1 t2 e0 e1 e2 t_pips t_many t_berths t_goal d_pips d_many d_berths d_goal) [(0, .ref t0), (1, .ref e0)] 0 [] := by
  unfold fX3_becomes at hs
  refine tg_aload_n C dX3_becomes_0 rfl 1 rfl ?_
  refine tg_get (v := .ref e1) C cfX3 3 rfl 0 (by decide) wm_89 rfl dX3_becomes_1 ?_
  refine tg_iconst (v := 0) C dX3_becomes_4 (by decide) ?_
  refine tg_aload_n C dX3_becomes_5 rfl 0 rfl ?_
  refine tg_get (v := .ref t1) C cfX3 0 rfl 0 (by decide) wm_89 rfl dX3_becomes_6 ?_
  refine tg_iconst (v := 0) C dX3_becomes_9 (by decide) ?_
  refine tg_aload_n C dX3_becomes_10 rfl 0 rfl ?_
  refine tg_get (v := .ref t1) C cfX3 0 rfl 0 (by decide) wm_89 rfl dX3_becomes_11 ?_
  refine tg_alen (v := 18) C 1 0 rfl rfl rfl dX3_becomes_14 ?_
  obtain ⟨hh1, hs⟩ := tg_cp_e hs
  obtain ⟨gg2, egg2, hs⟩ := tg_nm_e hs
  refine tg_copy (ws' := (tw_TT D t0 t1 t2 e0 e1 e2 gg2 t_many t_berths t_goal d_pips d_many d_berths d_goal)) C V wm_344 wm_346 wm_345 wm_69 4 1 0 0 rfl rfl rfl rfl hh1 egg2 rfl ⟨Nat.le_of_ble_eq_true rfl, Nat.le_of_ble_eq_true rfl⟩ dX3_becomes_15 ?_
  refine tg_aload_n C dX3_becomes_18 rfl 1 rfl ?_
  refine tg_get (v := .ref e2) C cfX3 3 rfl 1 (by decide) wm_91 rfl dX3_becomes_19 ?_
  refine tg_iconst (v := 0) C dX3_becomes_22 (by decide) ?_
  refine tg_aload_n C dX3_becomes_23 rfl 0 rfl ?_
  refine tg_get (v := .ref t2) C cfX3 0 rfl 1 (by decide) wm_91 rfl dX3_becomes_24 ?_
  refine tg_iconst (v := 0) C dX3_becomes_27 (by decide) ?_
  refine tg_aload_n C dX3_becomes_28 rfl 0 rfl ?_
  refine tg_get (v := .ref t2) C cfX3 0 rfl 1 (by decide) wm_91 rfl dX3_becomes_29 ?_
  refine tg_alen (v := 3) C 2 0 rfl rfl rfl dX3_becomes_32 ?_
  obtain ⟨hh3, hs⟩ := tg_cp_e hs
  obtain ⟨gg4, egg4, hs⟩ := tg_nm_e hs
  refine tg_copy (ws' := (tw_TT D t0 t1 t2 e0 e1 e2 gg2 gg4 t_berths t_goal d_pips d_many d_berths d_goal)) C V wm_344 wm_346 wm_345 wm_69 5 2 0 0 rfl rfl rfl rfl hh3 egg4 rfl ⟨Nat.le_of_ble_eq_true rfl, Nat.le_of_ble_eq_true rfl⟩ dX3_becomes_33 ?_
  refine tg_aload_n C dX3_becomes_36 rfl 0 rfl ?_
  refine tg_aload_n C dX3_becomes_37 rfl 1 rfl ?_
  refine tg_get (v := .int d_berths) C cfX3 3 rfl 2 (by decide) wm_95 rfl dX3_becomes_38 ?_
  refine tg_put (ws' := (tw_TT D t0 t1 t2 e0 e1 e2 gg2 gg4 d_berths t_goal d_pips d_many d_berths d_goal)) C V cfX3 0 rfl 2 (by decide) wm_95 rfl rfl rfl (Nat.le_of_ble_eq_true rfl) rfl dX3_becomes_41 ?_
  refine tg_aload_n C dX3_becomes_44 rfl 0 rfl ?_
  refine tg_aload_n C dX3_becomes_45 rfl 1 rfl ?_
  refine tg_get (v := .int d_goal) C cfX3 3 rfl 3 (by decide) wm_98 rfl dX3_becomes_46 ?_
  refine tg_put (ws' := (tw_TT D t0 t1 t2 e0 e1 e2 gg2 gg4 d_berths d_goal d_pips d_many d_berths d_goal)) C V cfX3 0 rfl 3 (by decide) wm_98 rfl rfl rfl (Nat.le_of_ble_eq_true rfl) rfl dX3_becomes_49 ?_
  obtain ⟨rfl, rfl, rfl, rfl⟩ := tg_i4 hs
  exact tg_vret hE dX3_becomes_52
set_option maxHeartbeats 2000000 in
set_option maxRecDepth 20000 in
theorem kX3_becomes (l : Launch) (D : tg_D) (t0 t1 t2 e0 e1 e2 : Nat) (t_pips : Nat → Int32) (t_many : Nat → Int32) (t_berths : Int32) (t_goal : Int32) (d_pips : Nat → Int32) (d_many : Nat → Int32) (d_berths : Int32) (d_goal : Int32) (q_t_pips : Nat → Int32) (q_t_many : Nat → Int32) (q_t_berths : Int32) (q_t_goal : Int32) (hs : fX3_becomes t_pips t_many d_pips d_many d_berths d_goal = some (q_t_pips, q_t_many, q_t_berths, q_t_goal)) : Met l yX3_becomes [Cond.code yX3_becomes cX3_becomes 2 none] (tg_rm 1 18) (tg_Pre D (tw_TT D t0 t1 t2 e0 e1 e2 t_pips t_many t_berths t_goal d_pips d_many d_berths d_goal) [.ref t0, .ref e0]) (tg_Qe none D (tw_TT D t0 t1 t2 e0 e1 e2 q_t_pips q_t_many q_t_berths q_t_goal d_pips d_many d_berths d_goal) (tg_Ad (tw_TT D t0 t1 t2 e0 e1 e2 t_pips t_many t_berths t_goal d_pips d_many d_berths d_goal))) 0 0 (tg_Ad (tw_TT D t0 t1 t2 e0 e1 e2 t_pips t_many t_berths t_goal d_pips d_many d_berths d_goal)) := tg_metEv (by decide) (Nat.le_of_ble_eq_true rfl) (fun X hl0 C V hE => vX3_becomes l D t0 t1 t2 e0 e1 e2 t_pips t_many t_berths t_goal d_pips d_many d_berths d_goal X hl0 C V q_t_pips q_t_many q_t_berths q_t_goal hs hE)
def fX3_hasPip_L2 (t_pips : Nat → Int32) (t_many : Nat → Int32) (n1 : Int32) (n2 : Int32) : Nat → Int32 → Option (Int32)
  | 0, _ => none
  | fuel + 1, n3 => tg_ck n1 3 <| if (t_many (Int32.toNatClampNeg n1)) ≤ n3 then (some 0) else (tg_b1 (fX3_pip t_pips n1 n3) fun rr3 => if ¬ rr3 = n2 then (tg_nm (n3 + 1) fun vv6 => fX3_hasPip_L2 t_pips t_many n1 n2 fuel vv6) else (some 1))
def fX3_hasPip (t_pips : Nat → Int32) (t_many : Nat → Int32) (p1 : Int32) (p2 : Int32) : Option (Int32) := fX3_hasPip_L2 t_pips t_many p1 p2 400 0
set_option maxHeartbeats 2000000 in
set_option maxRecDepth 20000 in
theorem vX3_hasPip_L2 (l : Launch) (D : tg_D) (t0 t1 t2 : Nat) (t_pips : Nat → Int32) (t_many : Nat → Int32) (t_berths : Int32) (t_goal : Int32) (n1 : Int32) (n2 : Int32) (X : tg_X) (hl0 : tg_l X = l) (C : tg_C X D 4 cX3_hasPip RX3 1 22 0 0) (r : Int32) (hE : tg_Ei X D 0 0 cX3_hasPip .boolean r (tw_T D t0 t1 t2 t_pips t_many t_berths t_goal)) : ∀ (fuel : Nat) (n3 : Int32), fX3_hasPip_L2 t_pips t_many n1 n2 fuel n3 = some r → tg_G X D 4 0 0 (tw_T D t0 t1 t2 t_pips t_many t_berths t_goal) [(0, .ref t0), (1, .int n1), (2, .int n2), (3, .int n3)] 2 [] := by
  intro fuel
  induction fuel with
  | zero =>
    intro n3 hs
    rw [fX3_hasPip_L2] at hs
    cases hs
  | succ fuel ih =>
    intro n3 hs
    rw [fX3_hasPip_L2] at hs
    refine tg_iload_n C dX3_hasPip_2 rfl 3 rfl ?_
    refine tg_aload_n C dX3_hasPip_3 rfl 0 rfl ?_
    refine tg_get (v := .ref t2) C cfX3 0 rfl 1 (by decide) wm_91 rfl dX3_hasPip_4 ?_
    refine tg_iload_n C dX3_hasPip_7 rfl 1 rfl ?_
    obtain ⟨hh1, hs⟩ := tg_ck_e hs
    refine tg_iald C 2 0 rfl rfl hh1 dX3_hasPip_8 ?_
    refine tg_icmp_ge (tgt := 30) C dX3_hasPip_9 (by decide) (fun cc2 => ?_) (fun cc2 => ?_)
    · have hs := tg_t cc2 hs
      refine tg_iconst (v := 0) C dX3_hasPip_30 (by decide) ?_
      obtain rfl := Option.some.inj hs
      exact tg_iret hE rfl dX3_hasPip_31
    · have hs := tg_f cc2 hs
      refine tg_aload_n C dX3_hasPip_12 rfl 0 rfl ?_
      refine tg_iload_n C dX3_hasPip_13 rfl 1 rfl ?_
      refine tg_iload_n C dX3_hasPip_14 rfl 3 rfl ?_
      obtain ⟨rr3, ee4, hs⟩ := tg_b1_e hs
      refine tg_pVs (As := [.int n1, .int n3]) (rest := []) C hl0 (kX3_pip l D t0 t1 t2 t_pips t_many t_berths t_goal n1 n3 rr3 ee4) wm_415 meX3_pip (by decide) rfl rfl rfl rfl (Nat.le_of_ble_eq_true rfl) dX3_hasPip_15 ?_
      refine tg_iload_n C dX3_hasPip_18 rfl 2 rfl ?_
      refine tg_icmp_ne (tgt := 24) C dX3_hasPip_19 (by decide) (fun cc5 => ?_) (fun cc5 => ?_)
      · have hs := tg_t cc5 hs
        obtain ⟨vv6, evv6, hs⟩ := tg_nm_e hs
        refine tg_iinc (v := vv6) (lv' := [(3, .int vv6), (0, .ref t0), (1, .int n1), (2, .int n2)]) C dX3_hasPip_24 3 rfl (by rw [evv6]; rfl) (by decide) rfl ?_
        refine tg_goto (tgt := 2) C dX3_hasPip_27 (by decide) ?_
        refine tg_lsub [1, 2, 3, 0] rfl ?_
        exact ih vv6 hs
      · have hs := tg_nf cc5 hs
        refine tg_iconst (v := 1) C dX3_hasPip_22 (by decide) ?_
        obtain rfl := Option.some.inj hs
        exact tg_iret hE rfl dX3_hasPip_23
set_option maxHeartbeats 2000000 in
set_option maxRecDepth 20000 in
theorem vX3_hasPip (l : Launch) (D : tg_D) (t0 t1 t2 : Nat) (t_pips : Nat → Int32) (t_many : Nat → Int32) (t_berths : Int32) (t_goal : Int32) (p1 : Int32) (p2 : Int32) (X : tg_X) (hl0 : tg_l X = l) (C : tg_C X D 4 cX3_hasPip RX3 1 22 0 0) (r : Int32) (hs : fX3_hasPip t_pips t_many p1 p2 = some r) (hE : tg_Ei X D 0 0 cX3_hasPip .boolean r (tw_T D t0 t1 t2 t_pips t_many t_berths t_goal)) : tg_G X D 4 0 0 (tw_T D t0 t1 t2 t_pips t_many t_berths t_goal) [(0, .ref t0), (1, .int p1), (2, .int p2)] 0 [] := by
  unfold fX3_hasPip at hs
  refine tg_iconst (v := 0) C dX3_hasPip_0 (by decide) ?_
  refine tg_istore_n (lv' := [(3, .int 0), (0, .ref t0), (1, .int p1), (2, .int p2)]) C dX3_hasPip_1 rfl (by decide) rfl ?_
  refine tg_lsub [1, 2, 3, 0] rfl ?_
  exact vX3_hasPip_L2 l D t0 t1 t2 t_pips t_many t_berths t_goal p1 p2 X hl0 C r hE 400 0 hs
set_option maxHeartbeats 2000000 in
set_option maxRecDepth 20000 in
theorem kX3_hasPip (l : Launch) (D : tg_D) (t0 t1 t2 : Nat) (t_pips : Nat → Int32) (t_many : Nat → Int32) (t_berths : Int32) (t_goal : Int32) (p1 : Int32) (p2 : Int32) (r : Int32) (hs : fX3_hasPip t_pips t_many p1 p2 = some r) : Met l yX3_hasPip [Cond.code yX3_hasPip cX3_hasPip 4 (some .boolean)] (tg_rm 1 22) (tg_Pre D (tw_T D t0 t1 t2 t_pips t_many t_berths t_goal) [.ref t0, .int p1, .int p2]) (vp_Si (fun r' => r' = r)) 0 0 (fun _ => False) := tg_metI (by decide) (Nat.le_of_ble_eq_true rfl) (fun X hl0 C hE => vX3_hasPip l D t0 t1 t2 t_pips t_many t_berths t_goal p1 p2 X hl0 C r hs hE)
def fX3_pairsOf (t_many : Nat → Int32) (p1 : Int32) (p2 : Int32) : Option (Int32) := tg_ck p1 3 <| tg_ck p2 3 <| some ((t_many (Int32.toNatClampNeg p1)) * (t_many (Int32.toNatClampNeg p2)))
set_option maxHeartbeats 2000000 in
set_option maxRecDepth 20000 in
theorem vX3_pairsOf (l : Launch) (D : tg_D) (t0 t1 t2 : Nat) (t_pips : Nat → Int32) (t_many : Nat → Int32) (t_berths : Int32) (t_goal : Int32) (p1 : Int32) (p2 : Int32) (X : tg_X) (hl0 : tg_l X = l) (C : tg_C X D 3 cX3_pairsOf RX3 0 0 0 0) (r : Int32) (hs : fX3_pairsOf t_many p1 p2 = some r) (hE : tg_Ei X D 0 0 cX3_pairsOf .int r (tw_T D t0 t1 t2 t_pips t_many t_berths t_goal)) : tg_G X D 3 0 0 (tw_T D t0 t1 t2 t_pips t_many t_berths t_goal) [(0, .ref t0), (1, .int p1), (2, .int p2)] 0 [] := by
  unfold fX3_pairsOf at hs
  refine tg_aload_n C dX3_pairsOf_0 rfl 0 rfl ?_
  refine tg_get (v := .ref t2) C cfX3 0 rfl 1 (by decide) wm_91 rfl dX3_pairsOf_1 ?_
  refine tg_iload_n C dX3_pairsOf_4 rfl 1 rfl ?_
  obtain ⟨hh1, hs⟩ := tg_ck_e hs
  refine tg_iald C 2 0 rfl rfl hh1 dX3_pairsOf_5 ?_
  refine tg_aload_n C dX3_pairsOf_6 rfl 0 rfl ?_
  refine tg_get (v := .ref t2) C cfX3 0 rfl 1 (by decide) wm_91 rfl dX3_pairsOf_7 ?_
  refine tg_iload_n C dX3_pairsOf_10 rfl 2 rfl ?_
  obtain ⟨hh2, hs⟩ := tg_ck_e hs
  refine tg_iald C 2 0 rfl rfl hh2 dX3_pairsOf_11 ?_
  refine tg_imul C dX3_pairsOf_12 ?_
  obtain rfl := Option.some.inj hs
  exact tg_iret hE rfl dX3_pairsOf_13
set_option maxHeartbeats 2000000 in
set_option maxRecDepth 20000 in
theorem kX3_pairsOf (l : Launch) (D : tg_D) (t0 t1 t2 : Nat) (t_pips : Nat → Int32) (t_many : Nat → Int32) (t_berths : Int32) (t_goal : Int32) (p1 : Int32) (p2 : Int32) (r : Int32) (hs : fX3_pairsOf t_many p1 p2 = some r) : Met l yX3_pairsOf [Cond.code yX3_pairsOf cX3_pairsOf 3 (some .int)] (tg_rm 0 0) (tg_Pre D (tw_T D t0 t1 t2 t_pips t_many t_berths t_goal) [.ref t0, .int p1, .int p2]) (vp_Si (fun r' => r' = r)) 0 0 (fun _ => False) := tg_metI (by decide) (Nat.le_of_ble_eq_true rfl) (fun X hl0 C hE => vX3_pairsOf l D t0 t1 t2 t_pips t_many t_berths t_goal p1 p2 X hl0 C r hs hE)
def fX3_winsOf_L19 (t_pips : Nat → Int32) (t_many : Nat → Int32) (n1 : Int32) (n2 : Int32) (n4 : Int32) : Nat → Int32 → Int32 → Option (Int32 × Int32)
  | 0, _, _ => none
  | fuel + 1, n3, n5 => tg_ck n2 3 <| if (t_many (Int32.toNatClampNeg n2)) ≤ n5 then (some (n3, n5)) else (tg_b1 (fX3_pip t_pips n1 n4) fun rr5 => tg_b1 (fX3_pip t_pips n2 n5) fun rr7 => tg_b1 (if rr5 ≤ rr7 then (some n3) else (tg_nm (n3 + 1) fun vv12 => some vv12)) fun (vv10 : Int32) => tg_nm (n5 + 1) fun vv13 => fX3_winsOf_L19 t_pips t_many n1 n2 n4 fuel vv10 vv13)
def fX3_winsOf_L5 (t_pips : Nat → Int32) (t_many : Nat → Int32) (n1 : Int32) (n2 : Int32) : Nat → Int32 → Int32 → Option (Int32 × Int32)
  | 0, _, _ => none
  | fuel + 1, n3, n4 => tg_ck n1 3 <| if (t_many (Int32.toNatClampNeg n1)) ≤ n4 then (some (n3, n4)) else (tg_b2 (fX3_winsOf_L19 t_pips t_many n1 n2 n4 400 n3 0) fun vv15 vv16 => tg_nm (n4 + 1) fun vv18 => fX3_winsOf_L5 t_pips t_many n1 n2 fuel vv15 vv18)
def fX3_winsOf (t_pips : Nat → Int32) (t_many : Nat → Int32) (p1 : Int32) (p2 : Int32) : Option (Int32) := tg_b2 (fX3_winsOf_L5 t_pips t_many p1 p2 400 0 0) fun vv19 vv20 => some vv19
set_option maxHeartbeats 2000000 in
set_option maxRecDepth 20000 in
theorem vX3_winsOf_L19 (l : Launch) (D : tg_D) (t0 t1 t2 : Nat) (t_pips : Nat → Int32) (t_many : Nat → Int32) (t_berths : Int32) (t_goal : Int32) (n1 : Int32) (n2 : Int32) (n4 : Int32) (X : tg_X) (hl0 : tg_l X = l) (C : tg_C X D 6 cX3_winsOf RX3 1 22 0 0) (o_n3 : Int32) (o_n5 : Int32) : ∀ (fuel : Nat) (n3 : Int32) (n5 : Int32), fX3_winsOf_L19 t_pips t_many n1 n2 n4 fuel n3 n5 = some (o_n3, o_n5) → tg_G X D 6 0 0 (tw_T D t0 t1 t2 t_pips t_many t_berths t_goal) [(0, .ref t0), (1, .int n1), (2, .int n2), (3, .int o_n3), (4, .int n4), (5, .int o_n5)] 56 [] → tg_G X D 6 0 0 (tw_T D t0 t1 t2 t_pips t_many t_berths t_goal) [(0, .ref t0), (1, .int n1), (2, .int n2), (3, .int n3), (4, .int n4), (5, .int n5)] 19 [] := by
  intro fuel
  induction fuel with
  | zero =>
    intro n3 n5 hs _
    rw [fX3_winsOf_L19] at hs
    cases hs
  | succ fuel ih =>
    intro n3 n5 hs J
    rw [fX3_winsOf_L19] at hs
    refine tg_iload C dX3_winsOf_19 5 rfl ?_
    refine tg_aload_n C dX3_winsOf_21 rfl 0 rfl ?_
    refine tg_get (v := .ref t2) C cfX3 0 rfl 1 (by decide) wm_91 rfl dX3_winsOf_22 ?_
    refine tg_iload_n C dX3_winsOf_25 rfl 2 rfl ?_
    obtain ⟨hh3, hs⟩ := tg_ck_e hs
    refine tg_iald C 2 0 rfl rfl hh3 dX3_winsOf_26 ?_
    refine tg_icmp_ge (tgt := 56) C dX3_winsOf_27 (by decide) (fun cc4 => ?_) (fun cc4 => ?_)
    · have hs := tg_t cc4 hs
      obtain ⟨rfl, rfl⟩ := tg_i2 hs
      exact J
    · have hs := tg_f cc4 hs
      refine tg_aload_n C dX3_winsOf_30 rfl 0 rfl ?_
      refine tg_iload_n C dX3_winsOf_31 rfl 1 rfl ?_
      refine tg_iload C dX3_winsOf_32 4 rfl ?_
      obtain ⟨rr5, ee6, hs⟩ := tg_b1_e hs
      refine tg_pVs (As := [.int n1, .int n4]) (rest := []) C hl0 (kX3_pip l D t0 t1 t2 t_pips t_many t_berths t_goal n1 n4 rr5 ee6) wm_415 meX3_pip (by decide) rfl rfl rfl rfl (Nat.le_of_ble_eq_true rfl) dX3_winsOf_34 ?_
      refine tg_aload_n C dX3_winsOf_37 rfl 0 rfl ?_
      refine tg_iload_n C dX3_winsOf_38 rfl 2 rfl ?_
      refine tg_iload C dX3_winsOf_39 5 rfl ?_
      obtain ⟨rr7, ee8, hs⟩ := tg_b1_e hs
      refine tg_pVs (As := [.int n2, .int n5]) (rest := [.int rr5]) C hl0 (kX3_pip l D t0 t1 t2 t_pips t_many t_berths t_goal n2 n5 rr7 ee8) wm_415 meX3_pip (by decide) rfl rfl rfl rfl (Nat.le_of_ble_eq_true rfl) dX3_winsOf_41 ?_
      obtain ⟨vv10, ee14, hs⟩ := tg_b1_e hs
      have JJ11 : tg_G X D 6 0 0 (tw_T D t0 t1 t2 t_pips t_many t_berths t_goal) [(0, .ref t0), (1, .int n1), (2, .int n2), (3, .int vv10), (4, .int n4), (5, .int n5)] 50 [] := by
        obtain ⟨vv13, evv13, hs⟩ := tg_nm_e hs
        refine tg_iinc (v := vv13) (lv' := [(5, .int vv13), (0, .ref t0), (1, .int n1), (2, .int n2), (3, .int vv10), (4, .int n4)]) C dX3_winsOf_50 5 rfl (by rw [evv13]; rfl) (by decide) rfl ?_
        refine tg_goto (tgt := 19) C dX3_winsOf_53 (by decide) ?_
        refine tg_lsub [1, 2, 3, 4, 5, 0] rfl ?_
        exact ih vv10 vv13 hs J
      have hs := ee14
      clear ee14
      refine tg_icmp_le (tgt := 50) C dX3_winsOf_44 (by decide) (fun cc9 => ?_) (fun cc9 => ?_)
      · have hs := tg_t cc9 hs
        obtain rfl := Option.some.inj hs
        exact JJ11
      · have hs := tg_f cc9 hs
        obtain ⟨vv12, evv12, hs⟩ := tg_nm_e hs
        refine tg_iinc (v := vv12) (lv' := [(3, .int vv12), (0, .ref t0), (1, .int n1), (2, .int n2), (4, .int n4), (5, .int n5)]) C dX3_winsOf_47 3 rfl (by rw [evv12]; rfl) (by decide) rfl ?_
        obtain rfl := Option.some.inj hs
        refine tg_lsub [1, 2, 3, 0, 4, 5] rfl ?_
        exact JJ11
set_option maxHeartbeats 2000000 in
set_option maxRecDepth 20000 in
theorem vX3_winsOf_L5 (l : Launch) (D : tg_D) (t0 t1 t2 : Nat) (t_pips : Nat → Int32) (t_many : Nat → Int32) (t_berths : Int32) (t_goal : Int32) (n1 : Int32) (n2 : Int32) (X : tg_X) (hl0 : tg_l X = l) (C : tg_C X D 6 cX3_winsOf RX3 1 22 0 0) (o_n3 : Int32) (o_n4 : Int32) : ∀ (fuel : Nat) (n3 : Int32) (n4 : Int32), fX3_winsOf_L5 t_pips t_many n1 n2 fuel n3 n4 = some (o_n3, o_n4) → tg_G X D 6 0 0 (tw_T D t0 t1 t2 t_pips t_many t_berths t_goal) [(0, .ref t0), (1, .int n1), (2, .int n2), (3, .int o_n3), (4, .int o_n4)] 62 [] → tg_G X D 6 0 0 (tw_T D t0 t1 t2 t_pips t_many t_berths t_goal) [(0, .ref t0), (1, .int n1), (2, .int n2), (3, .int n3), (4, .int n4)] 5 [] := by
  intro fuel
  induction fuel with
  | zero =>
    intro n3 n4 hs _
    rw [fX3_winsOf_L5] at hs
    cases hs
  | succ fuel ih =>
    intro n3 n4 hs J
    rw [fX3_winsOf_L5] at hs
    refine tg_iload C dX3_winsOf_5 4 rfl ?_
    refine tg_aload_n C dX3_winsOf_7 rfl 0 rfl ?_
    refine tg_get (v := .ref t2) C cfX3 0 rfl 1 (by decide) wm_91 rfl dX3_winsOf_8 ?_
    refine tg_iload_n C dX3_winsOf_11 rfl 1 rfl ?_
    obtain ⟨hh1, hs⟩ := tg_ck_e hs
    refine tg_iald C 2 0 rfl rfl hh1 dX3_winsOf_12 ?_
    refine tg_icmp_ge (tgt := 62) C dX3_winsOf_13 (by decide) (fun cc2 => ?_) (fun cc2 => ?_)
    · have hs := tg_t cc2 hs
      obtain ⟨rfl, rfl⟩ := tg_i2 hs
      exact J
    · have hs := tg_f cc2 hs
      refine tg_iconst (v := 0) C dX3_winsOf_16 (by decide) ?_
      refine tg_istore (lv' := [(5, .int 0), (0, .ref t0), (1, .int n1), (2, .int n2), (3, .int n3), (4, .int n4)]) C dX3_winsOf_17 (by decide) rfl ?_
      refine tg_lsub [1, 2, 3, 4, 5, 0] rfl ?_
      obtain ⟨vv15, vv16, ee17, hs⟩ := tg_b2_e hs
      refine vX3_winsOf_L19 l D t0 t1 t2 t_pips t_many t_berths t_goal n1 n2 n4 X hl0 C vv15 vv16 400 n3 0 ee17 ?_
      obtain ⟨vv18, evv18, hs⟩ := tg_nm_e hs
      refine tg_iinc (v := vv18) (lv' := [(4, .int vv18), (0, .ref t0), (1, .int n1), (2, .int n2), (3, .int vv15), (5, .int vv16)]) C dX3_winsOf_56 4 rfl (by rw [evv18]; rfl) (by decide) rfl ?_
      refine tg_goto (tgt := 5) C dX3_winsOf_59 (by decide) ?_
      refine tg_lsub [1, 2, 3, 4, 0] rfl ?_
      exact ih vv15 vv18 hs J
set_option maxHeartbeats 2000000 in
set_option maxRecDepth 20000 in
theorem vX3_winsOf (l : Launch) (D : tg_D) (t0 t1 t2 : Nat) (t_pips : Nat → Int32) (t_many : Nat → Int32) (t_berths : Int32) (t_goal : Int32) (p1 : Int32) (p2 : Int32) (X : tg_X) (hl0 : tg_l X = l) (C : tg_C X D 6 cX3_winsOf RX3 1 22 0 0) (r : Int32) (hs : fX3_winsOf t_pips t_many p1 p2 = some r) (hE : tg_Ei X D 0 0 cX3_winsOf .int r (tw_T D t0 t1 t2 t_pips t_many t_berths t_goal)) : tg_G X D 6 0 0 (tw_T D t0 t1 t2 t_pips t_many t_berths t_goal) [(0, .ref t0), (1, .int p1), (2, .int p2)] 0 [] := by
  unfold fX3_winsOf at hs
  refine tg_iconst (v := 0) C dX3_winsOf_0 (by decide) ?_
  refine tg_istore_n (lv' := [(3, .int 0), (0, .ref t0), (1, .int p1), (2, .int p2)]) C dX3_winsOf_1 rfl (by decide) rfl ?_
  refine tg_iconst (v := 0) C dX3_winsOf_2 (by decide) ?_
  refine tg_istore (lv' := [(4, .int 0), (3, .int 0), (0, .ref t0), (1, .int p1), (2, .int p2)]) C dX3_winsOf_3 (by decide) rfl ?_
  refine tg_lsub [2, 3, 4, 1, 0] rfl ?_
  obtain ⟨vv19, vv20, ee21, hs⟩ := tg_b2_e hs
  refine vX3_winsOf_L5 l D t0 t1 t2 t_pips t_many t_berths t_goal p1 p2 X hl0 C vv19 vv20 400 0 0 ee21 ?_
  refine tg_iload_n C dX3_winsOf_62 rfl 3 rfl ?_
  obtain rfl := Option.some.inj hs
  exact tg_iret hE rfl dX3_winsOf_63
set_option maxHeartbeats 2000000 in
set_option maxRecDepth 20000 in
theorem kX3_winsOf (l : Launch) (D : tg_D) (t0 t1 t2 : Nat) (t_pips : Nat → Int32) (t_many : Nat → Int32) (t_berths : Int32) (t_goal : Int32) (p1 : Int32) (p2 : Int32) (r : Int32) (hs : fX3_winsOf t_pips t_many p1 p2 = some r) : Met l yX3_winsOf [Cond.code yX3_winsOf cX3_winsOf 6 (some .int)] (tg_rm 1 22) (tg_Pre D (tw_T D t0 t1 t2 t_pips t_many t_berths t_goal) [.ref t0, .int p1, .int p2]) (vp_Si (fun r' => r' = r)) 0 0 (fun _ => False) := tg_metI (by decide) (Nat.le_of_ble_eq_true rfl) (fun X hl0 C hE => vX3_winsOf l D t0 t1 t2 t_pips t_many t_berths t_goal p1 p2 X hl0 C r hs hE)
def fX3_mostlyWins (t_pips : Nat → Int32) (t_many : Nat → Int32) (p1 : Int32) (p2 : Int32) : Option (Int32) := tg_b1 (fX3_winsOf t_pips t_many p1 p2) fun rr1 => tg_b1 (fX3_pairsOf t_many p1 p2) fun rr3 => if (2 * rr1) ≤ rr3 then (some 0) else (some 1)
set_option maxHeartbeats 2000000 in
set_option maxRecDepth 20000 in
theorem vX3_mostlyWins (l : Launch) (D : tg_D) (t0 t1 t2 : Nat) (t_pips : Nat → Int32) (t_many : Nat → Int32) (t_berths : Int32) (t_goal : Int32) (p1 : Int32) (p2 : Int32) (X : tg_X) (hl0 : tg_l X = l) (C : tg_C X D 3 cX3_mostlyWins RX3 2 47 0 0) (r : Int32) (hs : fX3_mostlyWins t_pips t_many p1 p2 = some r) (hE : tg_Ei X D 0 0 cX3_mostlyWins .boolean r (tw_T D t0 t1 t2 t_pips t_many t_berths t_goal)) : tg_G X D 3 0 0 (tw_T D t0 t1 t2 t_pips t_many t_berths t_goal) [(0, .ref t0), (1, .int p1), (2, .int p2)] 0 [] := by
  unfold fX3_mostlyWins at hs
  refine tg_iconst (v := 2) C dX3_mostlyWins_0 (by decide) ?_
  refine tg_aload_n C dX3_mostlyWins_1 rfl 0 rfl ?_
  refine tg_iload_n C dX3_mostlyWins_2 rfl 1 rfl ?_
  refine tg_iload_n C dX3_mostlyWins_3 rfl 2 rfl ?_
  obtain ⟨rr1, ee2, hs⟩ := tg_b1_e hs
  refine tg_pVs (As := [.int p1, .int p2]) (rest := [.int 2]) C hl0 (kX3_winsOf l D t0 t1 t2 t_pips t_many t_berths t_goal p1 p2 rr1 ee2) wm_632 meX3_winsOf (by decide) rfl rfl rfl rfl (Nat.le_of_ble_eq_true rfl) dX3_mostlyWins_4 ?_
  refine tg_imul C dX3_mostlyWins_7 ?_
  refine tg_aload_n C dX3_mostlyWins_8 rfl 0 rfl ?_
  refine tg_iload_n C dX3_mostlyWins_9 rfl 1 rfl ?_
  refine tg_iload_n C dX3_mostlyWins_10 rfl 2 rfl ?_
  obtain ⟨rr3, ee4, hs⟩ := tg_b1_e hs
  refine tg_pVs (As := [.int p1, .int p2]) (rest := [.int (2 * rr1)]) C hl0 (kX3_pairsOf l D t0 t1 t2 t_pips t_many t_berths t_goal p1 p2 rr3 ee4) wm_633 meX3_pairsOf (by decide) rfl rfl rfl rfl (Nat.le_of_ble_eq_true rfl) dX3_mostlyWins_11 ?_
  refine tg_icmp_le (tgt := 21) C dX3_mostlyWins_14 (by decide) (fun cc5 => ?_) (fun cc5 => ?_)
  · have hs := tg_t cc5 hs
    refine tg_iconst (v := 0) C dX3_mostlyWins_21 (by decide) ?_
    obtain rfl := Option.some.inj hs
    exact tg_iret hE rfl dX3_mostlyWins_22
  · have hs := tg_f cc5 hs
    refine tg_iconst (v := 1) C dX3_mostlyWins_17 (by decide) ?_
    refine tg_goto (tgt := 22) C dX3_mostlyWins_18 (by decide) ?_
    obtain rfl := Option.some.inj hs
    exact tg_iret hE rfl dX3_mostlyWins_22
set_option maxHeartbeats 2000000 in
set_option maxRecDepth 20000 in
theorem kX3_mostlyWins (l : Launch) (D : tg_D) (t0 t1 t2 : Nat) (t_pips : Nat → Int32) (t_many : Nat → Int32) (t_berths : Int32) (t_goal : Int32) (p1 : Int32) (p2 : Int32) (r : Int32) (hs : fX3_mostlyWins t_pips t_many p1 p2 = some r) : Met l yX3_mostlyWins [Cond.code yX3_mostlyWins cX3_mostlyWins 3 (some .boolean)] (tg_rm 2 47) (tg_Pre D (tw_T D t0 t1 t2 t_pips t_many t_berths t_goal) [.ref t0, .int p1, .int p2]) (vp_Si (fun r' => r' = r)) 0 0 (fun _ => False) := tg_metI (by decide) (Nat.le_of_ble_eq_true rfl) (fun X hl0 C hE => vX3_mostlyWins l D t0 t1 t2 t_pips t_many t_berths t_goal p1 p2 X hl0 C r hs hE)
