def fX5_bet_L7 (m_harbour : Nat → Int32) (m_now : Nat → Int32) (m_chalks : Int32) (m_cb : Nat → Int32) (m_co : Nat → Int32) : Nat → Int32 → Int32 → Int32 → Int32 → Int32 → Int32 → Option (Int32 × Int32 × Int32 × Int32 × Int32 × Int32)
  | 0, _, _, _, _, _, _ => none
  | fuel + 1, m_one, m_two, m_three, n1, n2, n3 => if m_chalks ≤ n3 then (some (m_one, m_two, m_three, n1, n2, n3)) else (tg_b4 (fX5_offOf m_harbour m_now m_one m_two m_three m_cb m_co n3) fun rr2 vv3 vv4 vv5 => tg_b4 (if 0 ≤ rr2 then (tg_b4 (fX5_offOf m_harbour m_now vv3 vv4 vv5 m_cb m_co n3) fun rr13 vv14 vv15 vv16 => some (vv14, vv15, vv16, rr13)) else (tg_b4 (fX5_offOf m_harbour m_now vv3 vv4 vv5 m_cb m_co n3) fun rr18 vv19 vv20 vv21 => some (vv19, vv20, vv21, -rr18))) fun (vv8 : Int32) (vv9 : Int32) (vv10 : Int32) (vv11 : Int32) => tg_b1 (if vv11 ≤ n2 then (some n1) else (some n3)) fun (vv24 : Int32) => tg_b1 (if vv11 ≤ n2 then (some n2) else (some vv11)) fun (vv27 : Int32) => tg_nm (n3 + 1) fun vv29 => fX5_bet_L7 m_harbour m_now m_chalks m_cb m_co fuel vv8 vv9 vv10 vv24 vv27 vv29)
def fX5_bet (m_harbour : Nat → Int32) (m_now : Nat → Int32) (m_one : Int32) (m_two : Int32) (m_three : Int32) (m_chalks : Int32) (m_cb : Nat → Int32) (m_co : Nat → Int32) : Option (Int32 × Int32 × Int32 × Int32) := tg_b6 (fX5_bet_L7 m_harbour m_now m_chalks m_cb m_co 400 m_one m_two m_three (-9) 0 0) fun vv33 vv34 vv35 vv36 vv37 vv38 => some (vv36, vv33, vv34, vv35)
set_option maxHeartbeats 2000000 in
set_option maxRecDepth 20000 in
theorem vX5_bet_L7 (l : Launch) (D : tg_D) (o0 o1 o2 o3 o4 o5 o6 o7 o8 : Nat) (m_text : Nat → Int32) (m_size : Int32) (m_at : Int32) (m_begin : Int32) (m_token : Int32) (m_told : Int32) (m_read : Nat → Int32) (m_harbour : Nat → Int32) (m_now : Nat → Int32) (m_undone : Nat → Int32) (m_undos : Int32) (m_chalks : Int32) (m_cb : Nat → Int32) (m_co : Nat → Int32) (m_trace : Int64) (m_kept : Nat → Int32) (X : tg_X) (hl0 : tg_l X = l) (C : tg_C X D 5 cX5_bet RX5 5 112 0 0) (V : tg_V X) (o_m_one : Int32) (o_m_two : Int32) (o_m_three : Int32) (o_n1 : Int32) (o_n2 : Int32) (o_n3 : Int32) : ∀ (fuel : Nat) (m_one : Int32) (m_two : Int32) (m_three : Int32) (n1 : Int32) (n2 : Int32) (n3 : Int32), fX5_bet_L7 m_harbour m_now m_chalks m_cb m_co fuel m_one m_two m_three n1 n2 n3 = some (o_m_one, o_m_two, o_m_three, o_n1, o_n2, o_n3) → tg_G X D 5 0 0 (tw_M D o0 o1 o2 o3 o4 o5 o6 o7 o8 m_text m_size m_at m_begin m_token m_told m_read m_harbour m_now m_undone m_undos o_m_one o_m_two o_m_three m_chalks m_cb m_co m_trace m_kept) [(0, .ref o0), (1, .int o_n1), (2, .int o_n2), (3, .int o_n3)] 70 [] → tg_G X D 5 0 0 (tw_M D o0 o1 o2 o3 o4 o5 o6 o7 o8 m_text m_size m_at m_begin m_token m_told m_read m_harbour m_now m_undone m_undos m_one m_two m_three m_chalks m_cb m_co m_trace m_kept) [(0, .ref o0), (1, .int n1), (2, .int n2), (3, .int n3)] 7 [] := by
  intro fuel
  induction fuel with
  | zero =>
    intro m_one m_two m_three n1 n2 n3 hs _
    rw [fX5_bet_L7] at hs
    cases hs
  | succ fuel ih =>
    intro m_one m_two m_three n1 n2 n3 hs J
    rw [fX5_bet_L7] at hs
    refine tg_iload_n C dX5_bet_7 rfl 3 rfl ?_
    refine tg_aload_n C dX5_bet_8 rfl 0 rfl ?_
    refine tg_get (v := .int m_chalks) C cfX5 0 rfl 14 (by decide) wm_719 rfl dX5_bet_9 ?_
    refine tg_icmp_ge (tgt := 70) C dX5_bet_12 (by decide) (fun cc1 => ?_) (fun cc1 => ?_)
    · have hs := tg_t cc1 hs
      obtain ⟨rfl, rfl, rfl, rfl, rfl, rfl⟩ := tg_i6 hs
      exact J
    · have hs := tg_f cc1 hs
      refine tg_aload_n C dX5_bet_15 rfl 0 rfl ?_
      refine tg_iload_n C dX5_bet_16 rfl 3 rfl ?_
      obtain ⟨rr2, vv3, vv4, vv5, ee6, hs⟩ := tg_b4_e hs
      refine tg_eVs (ws' := (tw_M D o0 o1 o2 o3 o4 o5 o6 o7 o8 m_text m_size m_at m_begin m_token m_told m_read m_harbour m_now m_undone m_undos vv3 vv4 vv5 m_chalks m_cb m_co m_trace m_kept)) (As := [.int n3]) (rest := []) C V hl0 (kX5_offOf l D o0 o1 o2 o3 o4 o5 o6 o7 o8 m_text m_size m_at m_begin m_token m_told m_read m_harbour m_now m_undone m_undos m_one m_two m_three m_chalks m_cb m_co m_trace m_kept n3 rr2 vv3 vv4 vv5 ee6) wm_985 meX5_offOf (by decide) rfl rfl rfl rfl (Nat.le_of_ble_eq_true rfl) rfl dX5_bet_17 ?_
      obtain ⟨vv8, vv9, vv10, vv11, ee32, hs⟩ := tg_b4_e hs
      have JJ12 : tg_G X D 5 0 0 (tw_M D o0 o1 o2 o3 o4 o5 o6 o7 o8 m_text m_size m_at m_begin m_token m_told m_read m_harbour m_now m_undone m_undos vv8 vv9 vv10 m_chalks m_cb m_co m_trace m_kept) [(0, .ref o0), (1, .int n1), (2, .int n2), (3, .int n3)] 37 [.int vv11] := by
        refine tg_istore (lv' := [(4, .int vv11), (0, .ref o0), (1, .int n1), (2, .int n2), (3, .int n3)]) C dX5_bet_37 (by decide) rfl ?_
        refine tg_iload C dX5_bet_39 0 rfl ?_
        refine tg_iload_n C dX5_bet_41 rfl 3 rfl ?_
        obtain ⟨vv24, ee31, hs⟩ := tg_b1_e hs
        have JJ25 : tg_G X D 5 0 0 (tw_M D o0 o1 o2 o3 o4 o5 o6 o7 o8 m_text m_size m_at m_begin m_token m_told m_read m_harbour m_now m_undone m_undos vv8 vv9 vv10 m_chalks m_cb m_co m_trace m_kept) [(0, .ref o0), (1, .int n1), (2, .int n2), (3, .int n3), (4, .int vv11)] 50 [.int vv24] := by
          refine tg_istore_n (lv' := [(1, .int vv24), (0, .ref o0), (2, .int n2), (3, .int n3), (4, .int vv11)]) C dX5_bet_50 rfl (by decide) rfl ?_
          refine tg_iload C dX5_bet_51 4 rfl ?_
          refine tg_iload_n C dX5_bet_53 rfl 2 rfl ?_
          obtain ⟨vv27, ee30, hs⟩ := tg_b1_e hs
          have JJ28 : tg_G X D 5 0 0 (tw_M D o0 o1 o2 o3 o4 o5 o6 o7 o8 m_text m_size m_at m_begin m_token m_told m_read m_harbour m_now m_undone m_undos vv8 vv9 vv10 m_chalks m_cb m_co m_trace m_kept) [(0, .ref o0), (1, .int vv24), (2, .int n2), (3, .int n3), (4, .int vv11)] 63 [.int vv27] := by
            refine tg_istore_n (lv' := [(2, .int vv27), (0, .ref o0), (1, .int vv24), (3, .int n3), (4, .int vv11)]) C dX5_bet_63 rfl (by decide) rfl ?_
            obtain ⟨vv29, evv29, hs⟩ := tg_nm_e hs
            refine tg_iinc (v := vv29) (lv' := [(3, .int vv29), (2, .int vv27), (0, .ref o0), (1, .int vv24), (4, .int vv11)]) C dX5_bet_64 3 rfl (by rw [evv29]; rfl) (by decide) rfl ?_
            refine tg_goto (tgt := 7) C dX5_bet_67 (by decide) ?_
            refine tg_lsub [2, 3, 1, 0] rfl ?_
            exact ih vv8 vv9 vv10 vv24 vv27 vv29 hs J
          have hs := ee30
          clear ee30
          refine tg_icmp_le (tgt := 62) C dX5_bet_54 (by decide) (fun cc26 => ?_) (fun cc26 => ?_)
          · have hs := tg_t cc26 hs
            refine tg_iload_n C dX5_bet_62 rfl 2 rfl ?_
            obtain rfl := Option.some.inj hs
            refine tg_lsub [1, 0, 2, 3, 4] rfl ?_
            exact JJ28
          · have hs := tg_f cc26 hs
            refine tg_iload C dX5_bet_57 4 rfl ?_
            refine tg_goto (tgt := 63) C dX5_bet_59 (by decide) ?_
            obtain rfl := Option.some.inj hs
            refine tg_lsub [1, 0, 2, 3, 4] rfl ?_
            exact JJ28
        have hs := ee31
        clear ee31
        refine tg_icmp_le (tgt := 49) C dX5_bet_42 (by decide) (fun cc23 => ?_) (fun cc23 => ?_)
        · have hs := tg_t cc23 hs
          refine tg_iload_n C dX5_bet_49 rfl 2 rfl ?_
          obtain rfl := Option.some.inj hs
          refine tg_lsub [1, 2, 3, 4, 0] rfl ?_
          exact JJ25
        · have hs := tg_f cc23 hs
          refine tg_iload_n C dX5_bet_45 rfl 4 rfl ?_
          refine tg_goto (tgt := 50) C dX5_bet_46 (by decide) ?_
          obtain rfl := Option.some.inj hs
          refine tg_lsub [1, 2, 3, 4, 0] rfl ?_
          exact JJ25
      have hs := ee32
      clear ee32
      refine tg_if_ge (tgt := 32) C dX5_bet_20 (by decide) (fun cc7 => ?_) (fun cc7 => ?_)
      · have hs := tg_t cc7 hs
        refine tg_aload_n C dX5_bet_32 rfl 0 rfl ?_
        refine tg_iload_n C dX5_bet_33 rfl 3 rfl ?_
        obtain ⟨rr13, vv14, vv15, vv16, ee17, hs⟩ := tg_b4_e hs
        refine tg_eVs (ws' := (tw_M D o0 o1 o2 o3 o4 o5 o6 o7 o8 m_text m_size m_at m_begin m_token m_told m_read m_harbour m_now m_undone m_undos vv14 vv15 vv16 m_chalks m_cb m_co m_trace m_kept)) (As := [.int n3]) (rest := []) C V hl0 (kX5_offOf l D o0 o1 o2 o3 o4 o5 o6 o7 o8 m_text m_size m_at m_begin m_token m_told m_read m_harbour m_now m_undone m_undos vv3 vv4 vv5 m_chalks m_cb m_co m_trace m_kept n3 rr13 vv14 vv15 vv16 ee17) wm_985 meX5_offOf (by decide) rfl rfl rfl rfl (Nat.le_of_ble_eq_true rfl) rfl dX5_bet_34 ?_
        obtain ⟨rfl, rfl, rfl, rfl⟩ := tg_i4 hs
        exact JJ12
      · have hs := tg_f cc7 hs
        refine tg_aload_n C dX5_bet_23 rfl 0 rfl ?_
        refine tg_iload_n C dX5_bet_24 rfl 3 rfl ?_
        obtain ⟨rr18, vv19, vv20, vv21, ee22, hs⟩ := tg_b4_e hs
        refine tg_eVs (ws' := (tw_M D o0 o1 o2 o3 o4 o5 o6 o7 o8 m_text m_size m_at m_begin m_token m_told m_read m_harbour m_now m_undone m_undos vv19 vv20 vv21 m_chalks m_cb m_co m_trace m_kept)) (As := [.int n3]) (rest := []) C V hl0 (kX5_offOf l D o0 o1 o2 o3 o4 o5 o6 o7 o8 m_text m_size m_at m_begin m_token m_told m_read m_harbour m_now m_undone m_undos vv3 vv4 vv5 m_chalks m_cb m_co m_trace m_kept n3 rr18 vv19 vv20 vv21 ee22) wm_985 meX5_offOf (by decide) rfl rfl rfl rfl (Nat.le_of_ble_eq_true rfl) rfl dX5_bet_25 ?_
        refine tg_ineg C dX5_bet_28 ?_
        refine tg_goto (tgt := 37) C dX5_bet_29 (by decide) ?_
        obtain ⟨rfl, rfl, rfl, rfl⟩ := tg_i4 hs
        exact JJ12
set_option maxHeartbeats 2000000 in
set_option maxRecDepth 20000 in
theorem vX5_bet (l : Launch) (D : tg_D) (o0 o1 o2 o3 o4 o5 o6 o7 o8 : Nat) (m_text : Nat → Int32) (m_size : Int32) (m_at : Int32) (m_begin : Int32) (m_token : Int32) (m_told : Int32) (m_read : Nat → Int32) (m_harbour : Nat → Int32) (m_now : Nat → Int32) (m_undone : Nat → Int32) (m_undos : Int32) (m_one : Int32) (m_two : Int32) (m_three : Int32) (m_chalks : Int32) (m_cb : Nat → Int32) (m_co : Nat → Int32) (m_trace : Int64) (m_kept : Nat → Int32) (X : tg_X) (hl0 : tg_l X = l) (C : tg_C X D 5 cX5_bet RX5 5 112 0 0) (V : tg_V X) (r : Int32) (q_m_one : Int32) (q_m_two : Int32) (q_m_three : Int32) (hs : fX5_bet m_harbour m_now m_one m_two m_three m_chalks m_cb m_co = some (r, q_m_one, q_m_two, q_m_three)) (hE : tg_Ei X D 0 0 cX5_bet .int r (tw_M D o0 o1 o2 o3 o4 o5 o6 o7 o8 m_text m_size m_at m_begin m_token m_told m_read m_harbour m_now m_undone m_undos q_m_one q_m_two q_m_three m_chalks m_cb m_co m_trace m_kept)) : tg_G X D 5 0 0 (tw_M D o0 o1 o2 o3 o4 o5 o6 o7 o8 m_text m_size m_at m_begin m_token m_told m_read m_harbour m_now m_undone m_undos m_one m_two m_three m_chalks m_cb m_co m_trace m_kept) [(0, .ref o0)] 0 [] := by
  unfold fX5_bet at hs
  refine tg_bipush (v := (-9)) C dX5_bet_0 (by decide) ?_
  refine tg_istore_n (lv' := [(1, .int (-9)), (0, .ref o0)]) C dX5_bet_2 rfl (by decide) rfl ?_
  refine tg_iconst (v := 0) C dX5_bet_3 (by decide) ?_
  refine tg_istore_n (lv' := [(2, .int 0), (1, .int (-9)), (0, .ref o0)]) C dX5_bet_4 rfl (by decide) rfl ?_
  refine tg_iconst (v := 0) C dX5_bet_5 (by decide) ?_
  refine tg_istore_n (lv' := [(3, .int 0), (2, .int 0), (1, .int (-9)), (0, .ref o0)]) C dX5_bet_6 rfl (by decide) rfl ?_
  refine tg_lsub [3, 2, 1, 0] rfl ?_
  obtain ⟨vv33, vv34, vv35, vv36, vv37, vv38, ee39, hs⟩ := tg_b6_e hs
  refine vX5_bet_L7 l D o0 o1 o2 o3 o4 o5 o6 o7 o8 m_text m_size m_at m_begin m_token m_told m_read m_harbour m_now m_undone m_undos m_chalks m_cb m_co m_trace m_kept X hl0 C V vv33 vv34 vv35 vv36 vv37 vv38 400 m_one m_two m_three (-9) 0 0 ee39 ?_
  refine tg_iload_n C dX5_bet_70 rfl 1 rfl ?_
  obtain ⟨rfl, rfl, rfl, rfl⟩ := tg_i4 hs
  exact tg_iret hE rfl dX5_bet_71
set_option maxHeartbeats 2000000 in
set_option maxRecDepth 20000 in
theorem kX5_bet (l : Launch) (D : tg_D) (o0 o1 o2 o3 o4 o5 o6 o7 o8 : Nat) (m_text : Nat → Int32) (m_size : Int32) (m_at : Int32) (m_begin : Int32) (m_token : Int32) (m_told : Int32) (m_read : Nat → Int32) (m_harbour : Nat → Int32) (m_now : Nat → Int32) (m_undone : Nat → Int32) (m_undos : Int32) (m_one : Int32) (m_two : Int32) (m_three : Int32) (m_chalks : Int32) (m_cb : Nat → Int32) (m_co : Nat → Int32) (m_trace : Int64) (m_kept : Nat → Int32) (r : Int32) (q_m_one : Int32) (q_m_two : Int32) (q_m_three : Int32) (hs : fX5_bet m_harbour m_now m_one m_two m_three m_chalks m_cb m_co = some (r, q_m_one, q_m_two, q_m_three)) : Met l yX5_bet [Cond.code yX5_bet cX5_bet 5 (some .int)] (tg_rm 5 112) (tg_Pre D (tw_M D o0 o1 o2 o3 o4 o5 o6 o7 o8 m_text m_size m_at m_begin m_token m_told m_read m_harbour m_now m_undone m_undos m_one m_two m_three m_chalks m_cb m_co m_trace m_kept) [.ref o0]) (tg_Qe (some (.int r)) D (tw_M D o0 o1 o2 o3 o4 o5 o6 o7 o8 m_text m_size m_at m_begin m_token m_told m_read m_harbour m_now m_undone m_undos q_m_one q_m_two q_m_three m_chalks m_cb m_co m_trace m_kept) (tg_Ad (tw_M D o0 o1 o2 o3 o4 o5 o6 o7 o8 m_text m_size m_at m_begin m_token m_told m_read m_harbour m_now m_undone m_undos m_one m_two m_three m_chalks m_cb m_co m_trace m_kept))) 0 0 (tg_Ad (tw_M D o0 o1 o2 o3 o4 o5 o6 o7 o8 m_text m_size m_at m_begin m_token m_told m_read m_harbour m_now m_undone m_undos m_one m_two m_three m_chalks m_cb m_co m_trace m_kept)) := tg_metEi (by decide) (Nat.le_of_ble_eq_true rfl) (fun X hl0 C V hE => vX5_bet l D o0 o1 o2 o3 o4 o5 o6 o7 o8 m_text m_size m_at m_begin m_token m_told m_read m_harbour m_now m_undone m_undos m_one m_two m_three m_chalks m_cb m_co m_trace m_kept X hl0 C V r q_m_one q_m_two q_m_three hs hE)
def fX5_third_L34 (m_harbour : Nat → Int32) (m_now : Nat → Int32) (n1 : Int32) (n2 : Int32) (n3 : Int32) : Nat → Int32 → Int32 → Option (Int32 × Int32)
  | 0, _, _ => none
  | fuel + 1, n4, n5 => tg_b1 (fX5_faces m_harbour 2) fun rr10 => if rr10 ≤ n5 then (some (n4, n5)) else (tg_b1 (fX5_face m_harbour 2 n5) fun rr13 => tg_b1 (fX5_opened m_harbour n1 n2 rr13 (m_now 1)) fun rr15 => tg_b1 (if ¬ ((rr15 >>> (n3 &&& 31)) &&& 1) = 1 then (some (0 : Int32)) else (tg_b1 (fX5_face m_harbour 2 n5) fun rr20 => some (1 <<< (rr20 &&& 31)))) fun (vv18 : Int32) => tg_nm (n4 ||| vv18) fun vv22 => tg_nm (n5 + 1) fun vv23 => fX5_third_L34 m_harbour m_now n1 n2 n3 fuel vv22 vv23)
def fX5_third (m_harbour : Nat → Int32) (m_now : Nat → Int32) (p1 : Int32) (p2 : Int32) (p3 : Int32) : Option (Int32) := tg_b1 (fX5_isFace m_harbour 0 p1) fun rr1 => if rr1 = 0 then (some (-1)) else (tg_b1 (fX5_isFace m_harbour 1 p2) fun rr4 => if rr4 = 0 then (some (-1)) else (tg_b1 (fX5_isBerth m_harbour p3) fun rr7 => if ¬ rr7 = 0 then (tg_b2 (fX5_third_L34 m_harbour m_now p1 p2 p3 400 0 0) fun vv25 vv26 => some vv25) else (some (-1))))
set_option maxHeartbeats 2000000 in
set_option maxRecDepth 20000 in
theorem vX5_third_L34 (l : Launch) (D : tg_D) (o0 o1 o2 o3 o4 o5 o6 o7 o8 : Nat) (m_text : Nat → Int32) (m_size : Int32) (m_at : Int32) (m_begin : Int32) (m_token : Int32) (m_told : Int32) (m_read : Nat → Int32) (m_harbour : Nat → Int32) (m_now : Nat → Int32) (m_undone : Nat → Int32) (m_undos : Int32) (m_one : Int32) (m_two : Int32) (m_three : Int32) (m_chalks : Int32) (m_cb : Nat → Int32) (m_co : Nat → Int32) (m_trace : Int64) (m_kept : Nat → Int32) (n1 : Int32) (n2 : Int32) (n3 : Int32) (X : tg_X) (hl0 : tg_l X = l) (C : tg_C X D 6 cX5_third RX5 2 46 0 0) (o_n4 : Int32) (o_n5 : Int32) : ∀ (fuel : Nat) (n4 : Int32) (n5 : Int32), fX5_third_L34 m_harbour m_now n1 n2 n3 fuel n4 n5 = some (o_n4, o_n5) → tg_G X D 6 0 0 (tw_M D o0 o1 o2 o3 o4 o5 o6 o7 o8 m_text m_size m_at m_begin m_token m_told m_read m_harbour m_now m_undone m_undos m_one m_two m_three m_chalks m_cb m_co m_trace m_kept) [(0, .ref o0), (1, .int n1), (2, .int n2), (3, .int n3), (4, .int o_n4), (5, .int o_n5)] 95 [] → tg_G X D 6 0 0 (tw_M D o0 o1 o2 o3 o4 o5 o6 o7 o8 m_text m_size m_at m_begin m_token m_told m_read m_harbour m_now m_undone m_undos m_one m_two m_three m_chalks m_cb m_co m_trace m_kept) [(0, .ref o0), (1, .int n1), (2, .int n2), (3, .int n3), (4, .int n4), (5, .int n5)] 34 [] := by
  intro fuel
  induction fuel with
  | zero =>
    intro n4 n5 hs _
    rw [fX5_third_L34] at hs
    cases hs
  | succ fuel ih =>
    intro n4 n5 hs J
    rw [fX5_third_L34] at hs
    refine tg_iload C dX5_third_34 5 rfl ?_
    refine tg_aload_n C dX5_third_36 rfl 0 rfl ?_
    refine tg_iconst (v := 2) C dX5_third_37 (by decide) ?_
    obtain ⟨rr10, ee11, hs⟩ := tg_b1_e hs
    refine tg_pVs (As := [.int 2]) (rest := [.int n5]) C hl0 (kX5_faces l D o0 o1 o2 o3 o4 o5 o6 o7 o8 m_text m_size m_at m_begin m_token m_told m_read m_harbour m_now m_undone m_undos m_one m_two m_three m_chalks m_cb m_co m_trace m_kept 2 rr10 ee11) wm_827 meX5_faces (by decide) rfl rfl rfl rfl (Nat.le_of_ble_eq_true rfl) dX5_third_38 ?_
    refine tg_icmp_ge (tgt := 95) C dX5_third_41 (by decide) (fun cc12 => ?_) (fun cc12 => ?_)
    · have hs := tg_t cc12 hs
      obtain ⟨rfl, rfl⟩ := tg_i2 hs
      exact J
    · have hs := tg_f cc12 hs
      refine tg_iload C dX5_third_44 4 rfl ?_
      refine tg_aload_n C dX5_third_46 rfl 0 rfl ?_
      refine tg_iload_n C dX5_third_47 rfl 1 rfl ?_
      refine tg_iload_n C dX5_third_48 rfl 2 rfl ?_
      refine tg_aload_n C dX5_third_49 rfl 0 rfl ?_
      refine tg_iconst (v := 2) C dX5_third_50 (by decide) ?_
      refine tg_iload C dX5_third_51 5 rfl ?_
      obtain ⟨rr13, ee14, hs⟩ := tg_b1_e hs
      refine tg_pVs (As := [.int 2, .int n5]) (rest := [.int n2, .int n1, .ref o0, .int n4]) C hl0 (kX5_face l D o0 o1 o2 o3 o4 o5 o6 o7 o8 m_text m_size m_at m_begin m_token m_told m_read m_harbour m_now m_undone m_undos m_one m_two m_three m_chalks m_cb m_co m_trace m_kept 2 n5 rr13 ee14) wm_831 meX5_face (by decide) rfl rfl rfl rfl (Nat.le_of_ble_eq_true rfl) dX5_third_53 ?_
      refine tg_aload_n C dX5_third_56 rfl 0 rfl ?_
      refine tg_get (v := .ref o4) C cfX5 0 rfl 8 (by decide) wm_713 rfl dX5_third_57 ?_
      refine tg_iconst (v := 1) C dX5_third_60 (by decide) ?_
      refine tg_iald C 4 0 rfl rfl (tg_vin (by decide)) dX5_third_61 ?_
      refine tg_topi (y := m_now 1) rfl ?_
      obtain ⟨rr15, ee16, hs⟩ := tg_b1_e hs
      refine tg_pVs (As := [.int n1, .int n2, .int rr13, .int (m_now 1)]) (rest := [.int n4]) C hl0 (kX5_opened l D o0 o1 o2 o3 o4 o5 o6 o7 o8 m_text m_size m_at m_begin m_token m_told m_read m_harbour m_now m_undone m_undos m_one m_two m_three m_chalks m_cb m_co m_trace m_kept n1 n2 rr13 (m_now 1) rr15 ee16) wm_871 meX5_opened (by decide) rfl rfl rfl rfl (Nat.le_of_ble_eq_true rfl) dX5_third_62 ?_
      refine tg_iload_n C dX5_third_65 rfl 3 rfl ?_
      refine tg_ishr C dX5_third_66 ?_
      refine tg_iconst (v := 1) C dX5_third_67 (by decide) ?_
      refine tg_iand C dX5_third_68 ?_
      refine tg_iconst (v := 1) C dX5_third_69 (by decide) ?_
      obtain ⟨vv18, ee24, hs⟩ := tg_b1_e hs
      have JJ19 : tg_G X D 6 0 0 (tw_M D o0 o1 o2 o3 o4 o5 o6 o7 o8 m_text m_size m_at m_begin m_token m_told m_read m_harbour m_now m_undone m_undos m_one m_two m_three m_chalks m_cb m_co m_trace m_kept) [(0, .ref o0), (1, .int n1), (2, .int n2), (3, .int n3), (4, .int n4), (5, .int n5)] 86 [.int vv18, .int n4] := by
        refine tg_ior C dX5_third_86 ?_
        obtain ⟨vv22, evv22, hs⟩ := tg_nm_e hs
        refine tg_topi evv22 ?_
        refine tg_istore (lv' := [(4, .int vv22), (0, .ref o0), (1, .int n1), (2, .int n2), (3, .int n3), (5, .int n5)]) C dX5_third_87 (by decide) rfl ?_
        obtain ⟨vv23, evv23, hs⟩ := tg_nm_e hs
        refine tg_iinc (v := vv23) (lv' := [(5, .int vv23), (4, .int vv22), (0, .ref o0), (1, .int n1), (2, .int n2), (3, .int n3)]) C dX5_third_89 5 rfl (by rw [evv23]; rfl) (by decide) rfl ?_
        refine tg_goto (tgt := 34) C dX5_third_92 (by decide) ?_
        refine tg_lsub [2, 3, 4, 5, 1, 0] rfl ?_
        exact ih vv22 vv23 hs J
      have hs := ee24
      clear ee24
      refine tg_icmp_ne (tgt := 85) C dX5_third_70 (by decide) (fun cc17 => ?_) (fun cc17 => ?_)
      · have hs := tg_t cc17 hs
        refine tg_iconst (v := 0) C dX5_third_85 (by decide) ?_
        obtain rfl := Option.some.inj hs
        exact JJ19
      · have hs := tg_nf cc17 hs
        refine tg_iconst (v := 1) C dX5_third_73 (by decide) ?_
        refine tg_aload_n C dX5_third_74 rfl 0 rfl ?_
        refine tg_iconst (v := 2) C dX5_third_75 (by decide) ?_
        refine tg_iload C dX5_third_76 5 rfl ?_
        obtain ⟨rr20, ee21, hs⟩ := tg_b1_e hs
        refine tg_pVs (As := [.int 2, .int n5]) (rest := [.int 1, .int n4]) C hl0 (kX5_face l D o0 o1 o2 o3 o4 o5 o6 o7 o8 m_text m_size m_at m_begin m_token m_told m_read m_harbour m_now m_undone m_undos m_one m_two m_three m_chalks m_cb m_co m_trace m_kept 2 n5 rr20 ee21) wm_831 meX5_face (by decide) rfl rfl rfl rfl (Nat.le_of_ble_eq_true rfl) dX5_third_78 ?_
        refine tg_ishl C dX5_third_81 ?_
        refine tg_goto (tgt := 86) C dX5_third_82 (by decide) ?_
        obtain rfl := Option.some.inj hs
        exact JJ19
set_option maxHeartbeats 2000000 in
set_option maxRecDepth 20000 in
theorem vX5_third (l : Launch) (D : tg_D) (o0 o1 o2 o3 o4 o5 o6 o7 o8 : Nat) (m_text : Nat → Int32) (m_size : Int32) (m_at : Int32) (m_begin : Int32) (m_token : Int32) (m_told : Int32) (m_read : Nat → Int32) (m_harbour : Nat → Int32) (m_now : Nat → Int32) (m_undone : Nat → Int32) (m_undos : Int32) (m_one : Int32) (m_two : Int32) (m_three : Int32) (m_chalks : Int32) (m_cb : Nat → Int32) (m_co : Nat → Int32) (m_trace : Int64) (m_kept : Nat → Int32) (p1 : Int32) (p2 : Int32) (p3 : Int32) (X : tg_X) (hl0 : tg_l X = l) (C : tg_C X D 6 cX5_third RX5 2 46 0 0) (r : Int32) (hs : fX5_third m_harbour m_now p1 p2 p3 = some r) (hE : tg_Ei X D 0 0 cX5_third .int r (tw_M D o0 o1 o2 o3 o4 o5 o6 o7 o8 m_text m_size m_at m_begin m_token m_told m_read m_harbour m_now m_undone m_undos m_one m_two m_three m_chalks m_cb m_co m_trace m_kept)) : tg_G X D 6 0 0 (tw_M D o0 o1 o2 o3 o4 o5 o6 o7 o8 m_text m_size m_at m_begin m_token m_told m_read m_harbour m_now m_undone m_undos m_one m_two m_three m_chalks m_cb m_co m_trace m_kept) [(0, .ref o0), (1, .int p1), (2, .int p2), (3, .int p3)] 0 [] := by
  unfold fX5_third at hs
  refine tg_aload_n C dX5_third_0 rfl 0 rfl ?_
  refine tg_iconst (v := 0) C dX5_third_1 (by decide) ?_
  refine tg_iload_n C dX5_third_2 rfl 1 rfl ?_
  obtain ⟨rr1, ee2, hs⟩ := tg_b1_e hs
  refine tg_pVs (As := [.int 0, .int p1]) (rest := []) C hl0 (kX5_isFace l D o0 o1 o2 o3 o4 o5 o6 o7 o8 m_text m_size m_at m_begin m_token m_told m_read m_harbour m_now m_undone m_undos m_one m_two m_three m_chalks m_cb m_co m_trace m_kept 0 p1 rr1 ee2) wm_887 meX5_isFace (by decide) rfl rfl rfl rfl (Nat.le_of_ble_eq_true rfl) dX5_third_3 ?_
  refine tg_if_eq (tgt := 26) C dX5_third_6 (by decide) (fun cc3 => ?_) (fun cc3 => ?_)
  · have hs := tg_t cc3 hs
    refine tg_iconst (v := (-1)) C dX5_third_26 (by decide) ?_
    obtain rfl := Option.some.inj hs
    exact tg_iret hE rfl dX5_third_27
  · have hs := tg_f cc3 hs
    refine tg_aload_n C dX5_third_9 rfl 0 rfl ?_
    refine tg_iconst (v := 1) C dX5_third_10 (by decide) ?_
    refine tg_iload_n C dX5_third_11 rfl 2 rfl ?_
    obtain ⟨rr4, ee5, hs⟩ := tg_b1_e hs
    refine tg_pVs (As := [.int 1, .int p2]) (rest := []) C hl0 (kX5_isFace l D o0 o1 o2 o3 o4 o5 o6 o7 o8 m_text m_size m_at m_begin m_token m_told m_read m_harbour m_now m_undone m_undos m_one m_two m_three m_chalks m_cb m_co m_trace m_kept 1 p2 rr4 ee5) wm_887 meX5_isFace (by decide) rfl rfl rfl rfl (Nat.le_of_ble_eq_true rfl) dX5_third_12 ?_
    refine tg_if_eq (tgt := 26) C dX5_third_15 (by decide) (fun cc6 => ?_) (fun cc6 => ?_)
    · have hs := tg_t cc6 hs
      refine tg_iconst (v := (-1)) C dX5_third_26 (by decide) ?_
      obtain rfl := Option.some.inj hs
      exact tg_iret hE rfl dX5_third_27
    · have hs := tg_f cc6 hs
      refine tg_aload_n C dX5_third_18 rfl 0 rfl ?_
      refine tg_iload_n C dX5_third_19 rfl 3 rfl ?_
      obtain ⟨rr7, ee8, hs⟩ := tg_b1_e hs
      refine tg_pVs (As := [.int p3]) (rest := []) C hl0 (kX5_isBerth l D o0 o1 o2 o3 o4 o5 o6 o7 o8 m_text m_size m_at m_begin m_token m_told m_read m_harbour m_now m_undone m_undos m_one m_two m_three m_chalks m_cb m_co m_trace m_kept p3 rr7 ee8) wm_839 meX5_isBerth (by decide) rfl rfl rfl rfl (Nat.le_of_ble_eq_true rfl) dX5_third_20 ?_
      refine tg_if_ne (tgt := 28) C dX5_third_23 (by decide) (fun cc9 => ?_) (fun cc9 => ?_)
      · have hs := tg_t cc9 hs
        refine tg_iconst (v := 0) C dX5_third_28 (by decide) ?_
        refine tg_istore (lv' := [(4, .int 0), (0, .ref o0), (1, .int p1), (2, .int p2), (3, .int p3)]) C dX5_third_29 (by decide) rfl ?_
        refine tg_iconst (v := 0) C dX5_third_31 (by decide) ?_
        refine tg_istore (lv' := [(5, .int 0), (4, .int 0), (0, .ref o0), (1, .int p1), (2, .int p2), (3, .int p3)]) C dX5_third_32 (by decide) rfl ?_
        refine tg_lsub [2, 3, 4, 5, 1, 0] rfl ?_
        obtain ⟨vv25, vv26, ee27, hs⟩ := tg_b2_e hs
        refine vX5_third_L34 l D o0 o1 o2 o3 o4 o5 o6 o7 o8 m_text m_size m_at m_begin m_token m_told m_read m_harbour m_now m_undone m_undos m_one m_two m_three m_chalks m_cb m_co m_trace m_kept p1 p2 p3 X hl0 C vv25 vv26 400 0 0 ee27 ?_
        refine tg_iload C dX5_third_95 4 rfl ?_
        obtain rfl := Option.some.inj hs
        exact tg_iret hE rfl dX5_third_97
      · have hs := tg_nf cc9 hs
        refine tg_iconst (v := (-1)) C dX5_third_26 (by decide) ?_
        obtain rfl := Option.some.inj hs
        exact tg_iret hE rfl dX5_third_27
set_option maxHeartbeats 2000000 in
set_option maxRecDepth 20000 in
theorem kX5_third (l : Launch) (D : tg_D) (o0 o1 o2 o3 o4 o5 o6 o7 o8 : Nat) (m_text : Nat → Int32) (m_size : Int32) (m_at : Int32) (m_begin : Int32) (m_token : Int32) (m_told : Int32) (m_read : Nat → Int32) (m_harbour : Nat → Int32) (m_now : Nat → Int32) (m_undone : Nat → Int32) (m_undos : Int32) (m_one : Int32) (m_two : Int32) (m_three : Int32) (m_chalks : Int32) (m_cb : Nat → Int32) (m_co : Nat → Int32) (m_trace : Int64) (m_kept : Nat → Int32) (p1 : Int32) (p2 : Int32) (p3 : Int32) (r : Int32) (hs : fX5_third m_harbour m_now p1 p2 p3 = some r) : Met l yX5_third [Cond.code yX5_third cX5_third 6 (some .int)] (tg_rm 2 46) (tg_Pre D (tw_M D o0 o1 o2 o3 o4 o5 o6 o7 o8 m_text m_size m_at m_begin m_token m_told m_read m_harbour m_now m_undone m_undos m_one m_two m_three m_chalks m_cb m_co m_trace m_kept) [.ref o0, .int p1, .int p2, .int p3]) (vp_Si (fun r' => r' = r)) 0 0 (fun _ => False) := tg_metI (by decide) (Nat.le_of_ble_eq_true rfl) (fun X hl0 C hE => vX5_third l D o0 o1 o2 o3 o4 o5 o6 o7 o8 m_text m_size m_at m_begin m_token m_told m_read m_harbour m_now m_undone m_undos m_one m_two m_three m_chalks m_cb m_co m_trace m_kept p1 p2 p3 X hl0 C r hs hE)
def fX5_threw_L29 (m_harbour : Nat → Int32) (m_now : Nat → Int32) (n1 : Int32) : Nat → Int32 → Int32 → Int32 → Int32 → Int32 → Int32 → Option (Int32 × Int32 × Int32 × Int32 × Int32 × Int32)
  | 0, _, _, _, _, _, _ => none
  | fuel + 1, m_one, m_two, m_three, n3, n4, n5 => tg_b1 (fX5_throwsOf m_harbour) fun rr7 => if rr7 ≤ n5 then (some (m_one, m_two, m_three, n3, n4, n5)) else (tg_b3 (fX5_comes m_harbour n5) fun vv10 vv11 vv12 => tg_b1 (fX5_opened m_harbour vv10 vv11 vv12 (m_now 1)) fun rr14 => tg_b1 (if ¬ ((rr14 >>> (n1 &&& 31)) &&& 1) = 1 then (some (0 : Int32)) else (some (1 : Int32))) fun (vv17 : Int32) => tg_b1 (if vv17 = 0 then (some n4) else (if ¬ n3 = 0 then (some n4) else (some (((100 * vv10) + (10 * vv11)) + vv12)))) fun (vv20 : Int32) => tg_b1 (if vv17 = 0 then (some (0 : Int32)) else (some (1 : Int32))) fun (vv24 : Int32) => tg_nm (n3 + vv24) fun vv26 => tg_nm (n5 + 1) fun vv27 => fX5_threw_L29 m_harbour m_now n1 fuel vv10 vv11 vv12 vv26 vv20 vv27)
def fX5_threw (m_harbour : Nat → Int32) (m_now : Nat → Int32) (m_one : Int32) (m_two : Int32) (m_three : Int32) (p1 : Int32) (p2 : Int32) : Option (Int32 × Int32 × Int32 × Int32) := tg_b1 (fX5_isBerth m_harbour p1) fun rr1 => if rr1 = 0 then (some ((-1), m_one, m_two, m_three)) else (tg_b1 (fX5_in (Int32.toInt64 p2) 0 1) fun rr4 => if ¬ rr4 = 0 then (tg_b6 (fX5_threw_L29 m_harbour m_now p1 400 m_one m_two m_three 0 (-9) 0) fun vv31 vv32 vv33 vv34 vv35 vv36 => if ¬ p2 = 0 then (some (vv35, vv31, vv32, vv33)) else (some (vv34, vv31, vv32, vv33))) else (some ((-1), m_one, m_two, m_three)))
set_option maxHeartbeats 2000000 in
set_option maxRecDepth 20000 in
theorem vX5_threw_L29 (l : Launch) (D : tg_D) (o0 o1 o2 o3 o4 o5 o6 o7 o8 : Nat) (m_text : Nat → Int32) (m_size : Int32) (m_at : Int32) (m_begin : Int32) (m_token : Int32) (m_told : Int32) (m_read : Nat → Int32) (m_harbour : Nat → Int32) (m_now : Nat → Int32) (m_undone : Nat → Int32) (m_undos : Int32) (m_chalks : Int32) (m_cb : Nat → Int32) (m_co : Nat → Int32) (m_trace : Int64) (m_kept : Nat → Int32) (n1 : Int32) (n2 : Int32) (X : tg_X) (hl0 : tg_l X = l) (C : tg_C X D 7 cX5_threw RX5 2 46 0 0) (V : tg_V X) (o_m_one : Int32) (o_m_two : Int32) (o_m_three : Int32) (o_n3 : Int32) (o_n4 : Int32) (o_n5 : Int32) : ∀ (fuel : Nat) (m_one : Int32) (m_two : Int32) (m_three : Int32) (n3 : Int32) (n4 : Int32) (n5 : Int32), fX5_threw_L29 m_harbour m_now n1 fuel m_one m_two m_three n3 n4 n5 = some (o_m_one, o_m_two, o_m_three, o_n3, o_n4, o_n5) → tg_G X D 7 0 0 (tw_M D o0 o1 o2 o3 o4 o5 o6 o7 o8 m_text m_size m_at m_begin m_token m_told m_read m_harbour m_now m_undone m_undos o_m_one o_m_two o_m_three m_chalks m_cb m_co m_trace m_kept) [(0, .ref o0), (1, .int n1), (2, .int n2), (3, .int o_n3), (4, .int o_n4), (5, .int o_n5)] 136 [] → tg_G X D 7 0 0 (tw_M D o0 o1 o2 o3 o4 o5 o6 o7 o8 m_text m_size m_at m_begin m_token m_told m_read m_harbour m_now m_undone m_undos m_one m_two m_three m_chalks m_cb m_co m_trace m_kept) [(0, .ref o0), (1, .int n1), (2, .int n2), (3, .int n3), (4, .int n4), (5, .int n5)] 29 [] := by
  intro fuel
  induction fuel with
  | zero =>
    intro m_one m_two m_three n3 n4 n5 hs _
    rw [fX5_threw_L29] at hs
    cases hs
  | succ fuel ih =>
    intro m_one m_two m_three n3 n4 n5 hs J
    rw [fX5_threw_L29] at hs
    refine tg_iload C dX5_threw_29 5 rfl ?_
    refine tg_aload_n C dX5_threw_31 rfl 0 rfl ?_
    obtain ⟨rr7, ee8, hs⟩ := tg_b1_e hs
    refine tg_pVs (As := []) (rest := [.int n5]) C hl0 (kX5_throwsOf l D o0 o1 o2 o3 o4 o5 o6 o7 o8 m_text m_size m_at m_begin m_token m_told m_read m_harbour m_now m_undone m_undos m_one m_two m_three m_chalks m_cb m_co m_trace m_kept rr7 ee8) wm_863 meX5_throwsOf (by decide) rfl rfl rfl rfl (Nat.le_of_ble_eq_true rfl) dX5_threw_32 ?_
    refine tg_icmp_ge (tgt := 136) C dX5_threw_35 (by decide) (fun cc9 => ?_) (fun cc9 => ?_)
    · have hs := tg_t cc9 hs
      obtain ⟨rfl, rfl, rfl, rfl, rfl, rfl⟩ := tg_i6 hs
      exact J
    · have hs := tg_f cc9 hs
      refine tg_aload_n C dX5_threw_38 rfl 0 rfl ?_
      refine tg_iload C dX5_threw_39 5 rfl ?_
      obtain ⟨vv10, vv11, vv12, ee13, hs⟩ := tg_b3_e hs
      refine tg_eVs (ws' := (tw_M D o0 o1 o2 o3 o4 o5 o6 o7 o8 m_text m_size m_at m_begin m_token m_told m_read m_harbour m_now m_undone m_undos vv10 vv11 vv12 m_chalks m_cb m_co m_trace m_kept)) (As := [.int n5]) (rest := []) C V hl0 (kX5_comes l D o0 o1 o2 o3 o4 o5 o6 o7 o8 m_text m_size m_at m_begin m_token m_told m_read m_harbour m_now m_undone m_undos m_one m_two m_three m_chalks m_cb m_co m_trace m_kept n5 vv10 vv11 vv12 ee13) wm_867 meX5_comes (by decide) rfl rfl rfl rfl (Nat.le_of_ble_eq_true rfl) rfl dX5_threw_41 ?_
      refine tg_aload_n C dX5_threw_44 rfl 0 rfl ?_
      refine tg_aload_n C dX5_threw_45 rfl 0 rfl ?_
      refine tg_get (v := .int vv10) C cfX5 0 rfl 11 (by decide) wm_716 rfl dX5_threw_46 ?_
      refine tg_aload_n C dX5_threw_49 rfl 0 rfl ?_
      refine tg_get (v := .int vv11) C cfX5 0 rfl 12 (by decide) wm_717 rfl dX5_threw_50 ?_
      refine tg_aload_n C dX5_threw_53 rfl 0 rfl ?_
      refine tg_get (v := .int vv12) C cfX5 0 rfl 13 (by decide) wm_718 rfl dX5_threw_54 ?_
      refine tg_aload_n C dX5_threw_57 rfl 0 rfl ?_
      refine tg_get (v := .ref o4) C cfX5 0 rfl 8 (by decide) wm_713 rfl dX5_threw_58 ?_
      refine tg_iconst (v := 1) C dX5_threw_61 (by decide) ?_
      refine tg_iald C 4 0 rfl rfl (tg_vin (by decide)) dX5_threw_62 ?_
      refine tg_topi (y := m_now 1) rfl ?_
      obtain ⟨rr14, ee15, hs⟩ := tg_b1_e hs
      refine tg_pVs (As := [.int vv10, .int vv11, .int vv12, .int (m_now 1)]) (rest := []) C hl0 (kX5_opened l D o0 o1 o2 o3 o4 o5 o6 o7 o8 m_text m_size m_at m_begin m_token m_told m_read m_harbour m_now m_undone m_undos vv10 vv11 vv12 m_chalks m_cb m_co m_trace m_kept vv10 vv11 vv12 (m_now 1) rr14 ee15) wm_871 meX5_opened (by decide) rfl rfl rfl rfl (Nat.le_of_ble_eq_true rfl) dX5_threw_63 ?_
      refine tg_iload_n C dX5_threw_66 rfl 1 rfl ?_
      refine tg_ishr C dX5_threw_67 ?_
      refine tg_iconst (v := 1) C dX5_threw_68 (by decide) ?_
      refine tg_iand C dX5_threw_69 ?_
      refine tg_iconst (v := 1) C dX5_threw_70 (by decide) ?_
      obtain ⟨vv17, ee30, hs⟩ := tg_b1_e hs
      have JJ18 : tg_G X D 7 0 0 (tw_M D o0 o1 o2 o3 o4 o5 o6 o7 o8 m_text m_size m_at m_begin m_token m_told m_read m_harbour m_now m_undone m_undos vv10 vv11 vv12 m_chalks m_cb m_co m_trace m_kept) [(0, .ref o0), (1, .int n1), (2, .int n2), (3, .int n3), (4, .int n4), (5, .int n5)] 79 [.int vv17] := by
        refine tg_istore (lv' := [(6, .int vv17), (0, .ref o0), (1, .int n1), (2, .int n2), (3, .int n3), (4, .int n4), (5, .int n5)]) C dX5_threw_79 (by decide) rfl ?_
        refine tg_iload C dX5_threw_81 0 rfl ?_
        obtain ⟨vv20, ee29, hs⟩ := tg_b1_e hs
        have JJ21 : tg_G X D 7 0 0 (tw_M D o0 o1 o2 o3 o4 o5 o6 o7 o8 m_text m_size m_at m_begin m_token m_told m_read m_harbour m_now m_undone m_undos vv10 vv11 vv12 m_chalks m_cb m_co m_trace m_kept) [(0, .ref o0), (1, .int n1), (2, .int n2), (3, .int n3), (4, .int n4), (5, .int n5), (6, .int vv17)] 115 [.int vv20] := by
          refine tg_istore (lv' := [(4, .int vv20), (0, .ref o0), (1, .int n1), (2, .int n2), (3, .int n3), (5, .int n5), (6, .int vv17)]) C dX5_threw_115 (by decide) rfl ?_
          refine tg_iload_n C dX5_threw_117 rfl 4 rfl ?_
          refine tg_iload C dX5_threw_118 6 rfl ?_
          obtain ⟨vv24, ee28, hs⟩ := tg_b1_e hs
          have JJ25 : tg_G X D 7 0 0 (tw_M D o0 o1 o2 o3 o4 o5 o6 o7 o8 m_text m_size m_at m_begin m_token m_told m_read m_harbour m_now m_undone m_undos vv10 vv11 vv12 m_chalks m_cb m_co m_trace m_kept) [(0, .ref o0), (1, .int n1), (2, .int n2), (3, .int n3), (4, .int vv20), (5, .int n5), (6, .int vv17)] 128 [.int vv24, .int n3] := by
            refine tg_iadd C dX5_threw_128 ?_
            obtain ⟨vv26, evv26, hs⟩ := tg_nm_e hs
            refine tg_topi evv26 ?_
            refine tg_istore_n (lv' := [(3, .int vv26), (0, .ref o0), (1, .int n1), (2, .int n2), (4, .int vv20), (5, .int n5), (6, .int vv17)]) C dX5_threw_129 rfl (by decide) rfl ?_
            obtain ⟨vv27, evv27, hs⟩ := tg_nm_e hs
            refine tg_iinc (v := vv27) (lv' := [(5, .int vv27), (3, .int vv26), (0, .ref o0), (1, .int n1), (2, .int n2), (4, .int vv20), (6, .int vv17)]) C dX5_threw_130 5 rfl (by rw [evv27]; rfl) (by decide) rfl ?_
            refine tg_goto (tgt := 29) C dX5_threw_133 (by decide) ?_
            refine tg_lsub [2, 3, 4, 1, 5, 0] rfl ?_
            exact ih vv10 vv11 vv12 vv26 vv20 vv27 hs J
          have hs := ee28
          clear ee28
          refine tg_if_eq (tgt := 127) C dX5_threw_120 (by decide) (fun cc23 => ?_) (fun cc23 => ?_)
          · have hs := tg_t cc23 hs
            refine tg_iconst (v := 0) C dX5_threw_127 (by decide) ?_
            obtain rfl := Option.some.inj hs
            refine tg_lsub [1, 2, 3, 4, 0, 5, 6] rfl ?_
            exact JJ25
          · have hs := tg_f cc23 hs
            refine tg_iconst (v := 1) C dX5_threw_123 (by decide) ?_
            refine tg_goto (tgt := 128) C dX5_threw_124 (by decide) ?_
            obtain rfl := Option.some.inj hs
            refine tg_lsub [1, 2, 3, 4, 0, 5, 6] rfl ?_
            exact JJ25
        have hs := ee29
        clear ee29
        refine tg_if_eq (tgt := 113) C dX5_threw_83 (by decide) (fun cc19 => ?_) (fun cc19 => ?_)
        · have hs := tg_t cc19 hs
          refine tg_iload C dX5_threw_113 5 rfl ?_
          obtain rfl := Option.some.inj hs
          refine tg_lsub [1, 2, 3, 4, 5, 6, 0] rfl ?_
          exact JJ21
        · have hs := tg_f cc19 hs
          refine tg_iload_n C dX5_threw_86 rfl 4 rfl ?_
          refine tg_if_ne (tgt := 113) C dX5_threw_87 (by decide) (fun cc22 => ?_) (fun cc22 => ?_)
          · have hs := tg_t cc22 hs
            refine tg_iload C dX5_threw_113 5 rfl ?_
            obtain rfl := Option.some.inj hs
            refine tg_lsub [1, 2, 3, 4, 5, 6, 0] rfl ?_
            exact JJ21
          · have hs := tg_nf cc22 hs
            refine tg_bipush (v := 100) C dX5_threw_90 (by decide) ?_
            refine tg_aload_n C dX5_threw_92 rfl 1 rfl ?_
            refine tg_get (v := .int vv10) C cfX5 0 rfl 11 (by decide) wm_716 rfl dX5_threw_93 ?_
            refine tg_imul C dX5_threw_96 ?_
            refine tg_bipush (v := 10) C dX5_threw_97 (by decide) ?_
            refine tg_aload_n C dX5_threw_99 rfl 1 rfl ?_
            refine tg_get (v := .int vv11) C cfX5 0 rfl 12 (by decide) wm_717 rfl dX5_threw_100 ?_
            refine tg_imul C dX5_threw_103 ?_
            refine tg_iadd C dX5_threw_104 ?_
            refine tg_aload_n C dX5_threw_105 rfl 1 rfl ?_
            refine tg_get (v := .int vv12) C cfX5 0 rfl 13 (by decide) wm_718 rfl dX5_threw_106 ?_
            refine tg_iadd C dX5_threw_109 ?_
            refine tg_goto (tgt := 115) C dX5_threw_110 (by decide) ?_
            obtain rfl := Option.some.inj hs
            refine tg_lsub [1, 2, 3, 4, 5, 6, 0] rfl ?_
            exact JJ21
      have hs := ee30
      clear ee30
      refine tg_icmp_ne (tgt := 78) C dX5_threw_71 (by decide) (fun cc16 => ?_) (fun cc16 => ?_)
      · have hs := tg_t cc16 hs
        refine tg_iconst (v := 0) C dX5_threw_78 (by decide) ?_
        obtain rfl := Option.some.inj hs
        exact JJ18
      · have hs := tg_nf cc16 hs
        refine tg_iconst (v := 1) C dX5_threw_74 (by decide) ?_
        refine tg_goto (tgt := 79) C dX5_threw_75 (by decide) ?_
        obtain rfl := Option.some.inj hs
        exact JJ18
set_option maxHeartbeats 2000000 in
set_option maxRecDepth 20000 in
theorem vX5_threw (l : Launch) (D : tg_D) (o0 o1 o2 o3 o4 o5 o6 o7 o8 : Nat) (m_text : Nat → Int32) (m_size : Int32) (m_at : Int32) (m_begin : Int32) (m_token : Int32) (m_told : Int32) (m_read : Nat → Int32) (m_harbour : Nat → Int32) (m_now : Nat → Int32) (m_undone : Nat → Int32) (m_undos : Int32) (m_one : Int32) (m_two : Int32) (m_three : Int32) (m_chalks : Int32) (m_cb : Nat → Int32) (m_co : Nat → Int32) (m_trace : Int64) (m_kept : Nat → Int32) (p1 : Int32) (p2 : Int32) (X : tg_X) (hl0 : tg_l X = l) (C : tg_C X D 7 cX5_threw RX5 2 46 0 0) (V : tg_V X) (r : Int32) (q_m_one : Int32) (q_m_two : Int32) (q_m_three : Int32) (hs : fX5_threw m_harbour m_now m_one m_two m_three p1 p2 = some (r, q_m_one, q_m_two, q_m_three)) (hE : tg_Ei X D 0 0 cX5_threw .int r (tw_M D o0 o1 o2 o3 o4 o5 o6 o7 o8 m_text m_size m_at m_begin m_token m_told m_read m_harbour m_now m_undone m_undos q_m_one q_m_two q_m_three m_chalks m_cb m_co m_trace m_kept)) : tg_G X D 7 0 0 (tw_M D o0 o1 o2 o3 o4 o5 o6 o7 o8 m_text m_size m_at m_begin m_token m_told m_read m_harbour m_now m_undone m_undos m_one m_two m_three m_chalks m_cb m_co m_trace m_kept) [(0, .ref o0), (1, .int p1), (2, .int p2)] 0 [] := by
  unfold fX5_threw at hs
  refine tg_aload_n C dX5_threw_0 rfl 0 rfl ?_
  refine tg_iload_n C dX5_threw_1 rfl 1 rfl ?_
  obtain ⟨rr1, ee2, hs⟩ := tg_b1_e hs
  refine tg_pVs (As := [.int p1]) (rest := []) C hl0 (kX5_isBerth l D o0 o1 o2 o3 o4 o5 o6 o7 o8 m_text m_size m_at m_begin m_token m_told m_read m_harbour m_now m_undone m_undos m_one m_two m_three m_chalks m_cb m_co m_trace m_kept p1 rr1 ee2) wm_839 meX5_isBerth (by decide) rfl rfl rfl rfl (Nat.le_of_ble_eq_true rfl) dX5_threw_2 ?_
  refine tg_if_eq (tgt := 18) C dX5_threw_5 (by decide) (fun cc3 => ?_) (fun cc3 => ?_)
  · have hs := tg_t cc3 hs
    refine tg_iconst (v := (-1)) C dX5_threw_18 (by decide) ?_
    obtain ⟨rfl, rfl, rfl, rfl⟩ := tg_i4 hs
    exact tg_iret hE rfl dX5_threw_19
  · have hs := tg_f cc3 hs
    refine tg_iload_n C dX5_threw_8 rfl 2 rfl ?_
    refine tg_i2l C dX5_threw_9 ?_
    refine tg_lconst (v := 0) C dX5_threw_10 (by decide) ?_
    refine tg_lconst (v := 1) C dX5_threw_11 (by decide) ?_
    obtain ⟨rr4, ee5, hs⟩ := tg_b1_e hs
    refine tg_pS (As := [.long (Int32.toInt64 p2), .long 0, .long 1]) (rest := []) C hl0 (kX5_in l D (Int32.toInt64 p2) 0 1 rr4 ee5) wm_768 meX5_in (by decide) rfl rfl (Nat.le_of_ble_eq_true rfl) dX5_threw_12 ?_
    refine tg_if_ne (tgt := 20) C dX5_threw_15 (by decide) (fun cc6 => ?_) (fun cc6 => ?_)
    · have hs := tg_t cc6 hs
      refine tg_iconst (v := 0) C dX5_threw_20 (by decide) ?_
      refine tg_istore_n (lv' := [(3, .int 0), (0, .ref o0), (1, .int p1), (2, .int p2)]) C dX5_threw_21 rfl (by decide) rfl ?_
      refine tg_bipush (v := (-9)) C dX5_threw_22 (by decide) ?_
      refine tg_istore (lv' := [(4, .int (-9)), (3, .int 0), (0, .ref o0), (1, .int p1), (2, .int p2)]) C dX5_threw_24 (by decide) rfl ?_
      refine tg_iconst (v := 0) C dX5_threw_26 (by decide) ?_
      refine tg_istore (lv' := [(5, .int 0), (4, .int (-9)), (3, .int 0), (0, .ref o0), (1, .int p1), (2, .int p2)]) C dX5_threw_27 (by decide) rfl ?_
      refine tg_lsub [3, 4, 5, 2, 1, 0] rfl ?_
      obtain ⟨vv31, vv32, vv33, vv34, vv35, vv36, ee37, hs⟩ := tg_b6_e hs
      refine vX5_threw_L29 l D o0 o1 o2 o3 o4 o5 o6 o7 o8 m_text m_size m_at m_begin m_token m_told m_read m_harbour m_now m_undone m_undos m_chalks m_cb m_co m_trace m_kept p1 p2 X hl0 C V vv31 vv32 vv33 vv34 vv35 vv36 400 m_one m_two m_three 0 (-9) 0 ee37 ?_
      refine tg_iload_n C dX5_threw_136 rfl 2 rfl ?_
      refine tg_if_ne (tgt := 144) C dX5_threw_137 (by decide) (fun cc38 => ?_) (fun cc38 => ?_)
      · have hs := tg_t cc38 hs
        refine tg_iload C dX5_threw_144 4 rfl ?_
        obtain ⟨rfl, rfl, rfl, rfl⟩ := tg_i4 hs
        exact tg_iret hE rfl dX5_threw_146
      · have hs := tg_nf cc38 hs
        refine tg_iload_n C dX5_threw_140 rfl 3 rfl ?_
        refine tg_goto (tgt := 146) C dX5_threw_141 (by decide) ?_
        obtain ⟨rfl, rfl, rfl, rfl⟩ := tg_i4 hs
        exact tg_iret hE rfl dX5_threw_146
    · have hs := tg_nf cc6 hs
      refine tg_iconst (v := (-1)) C dX5_threw_18 (by decide) ?_
      obtain ⟨rfl, rfl, rfl, rfl⟩ := tg_i4 hs
      exact tg_iret hE rfl dX5_threw_19
set_option maxHeartbeats 2000000 in
set_option maxRecDepth 20000 in
theorem kX5_threw (l : Launch) (D : tg_D) (o0 o1 o2 o3 o4 o5 o6 o7 o8 : Nat) (m_text : Nat → Int32) (m_size : Int32) (m_at : Int32) (m_begin : Int32) (m_token : Int32) (m_told : Int32) (m_read : Nat → Int32) (m_harbour : Nat → Int32) (m_now : Nat → Int32) (m_undone : Nat → Int32) (m_undos : Int32) (m_one : Int32) (m_two : Int32) (m_three : Int32) (m_chalks : Int32) (m_cb : Nat → Int32) (m_co : Nat → Int32) (m_trace : Int64) (m_kept : Nat → Int32) (p1 : Int32) (p2 : Int32) (r : Int32) (q_m_one : Int32) (q_m_two : Int32) (q_m_three : Int32) (hs : fX5_threw m_harbour m_now m_one m_two m_three p1 p2 = some (r, q_m_one, q_m_two, q_m_three)) : Met l yX5_threw [Cond.code yX5_threw cX5_threw 7 (some .int)] (tg_rm 2 46) (tg_Pre D (tw_M D o0 o1 o2 o3 o4 o5 o6 o7 o8 m_text m_size m_at m_begin m_token m_told m_read m_harbour m_now m_undone m_undos m_one m_two m_three m_chalks m_cb m_co m_trace m_kept) [.ref o0, .int p1, .int p2]) (tg_Qe (some (.int r)) D (tw_M D o0 o1 o2 o3 o4 o5 o6 o7 o8 m_text m_size m_at m_begin m_token m_told m_read m_harbour m_now m_undone m_undos q_m_one q_m_two q_m_three m_chalks m_cb m_co m_trace m_kept) (tg_Ad (tw_M D o0 o1 o2 o3 o4 o5 o6 o7 o8 m_text m_size m_at m_begin m_token m_told m_read m_harbour m_now m_undone m_undos m_one m_two m_three m_chalks m_cb m_co m_trace m_kept))) 0 0 (tg_Ad (tw_M D o0 o1 o2 o3 o4 o5 o6 o7 o8 m_text m_size m_at m_begin m_token m_told m_read m_harbour m_now m_undone m_undos m_one m_two m_three m_chalks m_cb m_co m_trace m_kept)) := tg_metEi (by decide) (Nat.le_of_ble_eq_true rfl) (fun X hl0 C V hE => vX5_threw l D o0 o1 o2 o3 o4 o5 o6 o7 o8 m_text m_size m_at m_begin m_token m_told m_read m_harbour m_now m_undone m_undos m_one m_two m_three m_chalks m_cb m_co m_trace m_kept p1 p2 X hl0 C V r q_m_one q_m_two q_m_three hs hE)
def fX5_wins_L18 (m_harbour : Nat → Int32) (n1 : Int32) (n2 : Int32) (n4 : Int32) : Nat → Int32 → Int32 → Option (Int32 × Int32)
  | 0, _, _ => none
  | fuel + 1, n3, n5 => tg_b1 (fX5_faces m_harbour n2) fun rr4 => if rr4 ≤ n5 then (some (n3, n5)) else (tg_b1 (fX5_face m_harbour n1 n4) fun rr7 => tg_b1 (fX5_face m_harbour n2 n5) fun rr9 => tg_b1 (if rr7 ≤ rr9 then (some (0 : Int32)) else (some (1 : Int32))) fun (vv12 : Int32) => tg_nm (n3 + vv12) fun vv14 => tg_nm (n5 + 1) fun vv15 => fX5_wins_L18 m_harbour n1 n2 n4 fuel vv14 vv15)
def fX5_wins_L5 (m_harbour : Nat → Int32) (n1 : Int32) (n2 : Int32) : Nat → Int32 → Int32 → Option (Int32 × Int32)
  | 0, _, _ => none
  | fuel + 1, n3, n4 => tg_b1 (fX5_faces m_harbour n1) fun rr1 => if rr1 ≤ n4 then (some (n3, n4)) else (tg_b2 (fX5_wins_L18 m_harbour n1 n2 n4 400 n3 0) fun vv17 vv18 => tg_nm (n4 + 1) fun vv20 => fX5_wins_L5 m_harbour n1 n2 fuel vv17 vv20)
def fX5_wins (m_harbour : Nat → Int32) (p1 : Int32) (p2 : Int32) : Option (Int32) := tg_b2 (fX5_wins_L5 m_harbour p1 p2 400 0 0) fun vv21 vv22 => some vv21
set_option maxHeartbeats 2000000 in
set_option maxRecDepth 20000 in
theorem vX5_wins_L18 (l : Launch) (D : tg_D) (o0 o1 o2 o3 o4 o5 o6 o7 o8 : Nat) (m_text : Nat → Int32) (m_size : Int32) (m_at : Int32) (m_begin : Int32) (m_token : Int32) (m_told : Int32) (m_read : Nat → Int32) (m_harbour : Nat → Int32) (m_now : Nat → Int32) (m_undone : Nat → Int32) (m_undos : Int32) (m_one : Int32) (m_two : Int32) (m_three : Int32) (m_chalks : Int32) (m_cb : Nat → Int32) (m_co : Nat → Int32) (m_trace : Int64) (m_kept : Nat → Int32) (n1 : Int32) (n2 : Int32) (n4 : Int32) (X : tg_X) (hl0 : tg_l X = l) (C : tg_C X D 6 cX5_wins RX5 1 22 0 0) (o_n3 : Int32) (o_n5 : Int32) : ∀ (fuel : Nat) (n3 : Int32) (n5 : Int32), fX5_wins_L18 m_harbour n1 n2 n4 fuel n3 n5 = some (o_n3, o_n5) → tg_G X D 6 0 0 (tw_M D o0 o1 o2 o3 o4 o5 o6 o7 o8 m_text m_size m_at m_begin m_token m_told m_read m_harbour m_now m_undone m_undos m_one m_two m_three m_chalks m_cb m_co m_trace m_kept) [(0, .ref o0), (1, .int n1), (2, .int n2), (3, .int o_n3), (4, .int n4), (5, .int o_n5)] 59 [] → tg_G X D 6 0 0 (tw_M D o0 o1 o2 o3 o4 o5 o6 o7 o8 m_text m_size m_at m_begin m_token m_told m_read m_harbour m_now m_undone m_undos m_one m_two m_three m_chalks m_cb m_co m_trace m_kept) [(0, .ref o0), (1, .int n1), (2, .int n2), (3, .int n3), (4, .int n4), (5, .int n5)] 18 [] := by
  intro fuel
  induction fuel with
  | zero =>
    intro n3 n5 hs _
    rw [fX5_wins_L18] at hs
    cases hs
  | succ fuel ih =>
    intro n3 n5 hs J
    rw [fX5_wins_L18] at hs
    refine tg_iload C dX5_wins_18 5 rfl ?_
    refine tg_aload_n C dX5_wins_20 rfl 0 rfl ?_
    refine tg_iload_n C dX5_wins_21 rfl 2 rfl ?_
    obtain ⟨rr4, ee5, hs⟩ := tg_b1_e hs
    refine tg_pVs (As := [.int n2]) (rest := [.int n5]) C hl0 (kX5_faces l D o0 o1 o2 o3 o4 o5 o6 o7 o8 m_text m_size m_at m_begin m_token m_told m_read m_harbour m_now m_undone m_undos m_one m_two m_three m_chalks m_cb m_co m_trace m_kept n2 rr4 ee5) wm_827 meX5_faces (by decide) rfl rfl rfl rfl (Nat.le_of_ble_eq_true rfl) dX5_wins_22 ?_
    refine tg_icmp_ge (tgt := 59) C dX5_wins_25 (by decide) (fun cc6 => ?_) (fun cc6 => ?_)
    · have hs := tg_t cc6 hs
      obtain ⟨rfl, rfl⟩ := tg_i2 hs
      exact J
    · have hs := tg_f cc6 hs
      refine tg_iload_n C dX5_wins_28 rfl 3 rfl ?_
      refine tg_aload_n C dX5_wins_29 rfl 0 rfl ?_
      refine tg_iload_n C dX5_wins_30 rfl 1 rfl ?_
      refine tg_iload C dX5_wins_31 4 rfl ?_
      obtain ⟨rr7, ee8, hs⟩ := tg_b1_e hs
      refine tg_pVs (As := [.int n1, .int n4]) (rest := [.int n3]) C hl0 (kX5_face l D o0 o1 o2 o3 o4 o5 o6 o7 o8 m_text m_size m_at m_begin m_token m_told m_read m_harbour m_now m_undone m_undos m_one m_two m_three m_chalks m_cb m_co m_trace m_kept n1 n4 rr7 ee8) wm_831 meX5_face (by decide) rfl rfl rfl rfl (Nat.le_of_ble_eq_true rfl) dX5_wins_33 ?_
      refine tg_aload_n C dX5_wins_36 rfl 0 rfl ?_
      refine tg_iload_n C dX5_wins_37 rfl 2 rfl ?_
      refine tg_iload C dX5_wins_38 5 rfl ?_
      obtain ⟨rr9, ee10, hs⟩ := tg_b1_e hs
      refine tg_pVs (As := [.int n2, .int n5]) (rest := [.int rr7, .int n3]) C hl0 (kX5_face l D o0 o1 o2 o3 o4 o5 o6 o7 o8 m_text m_size m_at m_begin m_token m_told m_read m_harbour m_now m_undone m_undos m_one m_two m_three m_chalks m_cb m_co m_trace m_kept n2 n5 rr9 ee10) wm_831 meX5_face (by decide) rfl rfl rfl rfl (Nat.le_of_ble_eq_true rfl) dX5_wins_40 ?_
      obtain ⟨vv12, ee16, hs⟩ := tg_b1_e hs
      have JJ13 : tg_G X D 6 0 0 (tw_M D o0 o1 o2 o3 o4 o5 o6 o7 o8 m_text m_size m_at m_begin m_token m_told m_read m_harbour m_now m_undone m_undos m_one m_two m_three m_chalks m_cb m_co m_trace m_kept) [(0, .ref o0), (1, .int n1), (2, .int n2), (3, .int n3), (4, .int n4), (5, .int n5)] 51 [.int vv12, .int n3] := by
        refine tg_iadd C dX5_wins_51 ?_
        obtain ⟨vv14, evv14, hs⟩ := tg_nm_e hs
        refine tg_topi evv14 ?_
        refine tg_istore_n (lv' := [(3, .int vv14), (0, .ref o0), (1, .int n1), (2, .int n2), (4, .int n4), (5, .int n5)]) C dX5_wins_52 rfl (by decide) rfl ?_
        obtain ⟨vv15, evv15, hs⟩ := tg_nm_e hs
        refine tg_iinc (v := vv15) (lv' := [(5, .int vv15), (3, .int vv14), (0, .ref o0), (1, .int n1), (2, .int n2), (4, .int n4)]) C dX5_wins_53 5 rfl (by rw [evv15]; rfl) (by decide) rfl ?_
        refine tg_goto (tgt := 18) C dX5_wins_56 (by decide) ?_
        refine tg_lsub [2, 3, 4, 1, 5, 0] rfl ?_
        exact ih vv14 vv15 hs J
      have hs := ee16
      clear ee16
      refine tg_icmp_le (tgt := 50) C dX5_wins_43 (by decide) (fun cc11 => ?_) (fun cc11 => ?_)
      · have hs := tg_t cc11 hs
        refine tg_iconst (v := 0) C dX5_wins_50 (by decide) ?_
        obtain rfl := Option.some.inj hs
        exact JJ13
      · have hs := tg_f cc11 hs
        refine tg_iconst (v := 1) C dX5_wins_46 (by decide) ?_
        refine tg_goto (tgt := 51) C dX5_wins_47 (by decide) ?_
        obtain rfl := Option.some.inj hs
        exact JJ13
set_option maxHeartbeats 2000000 in
set_option maxRecDepth 20000 in
theorem vX5_wins_L5 (l : Launch) (D : tg_D) (o0 o1 o2 o3 o4 o5 o6 o7 o8 : Nat) (m_text : Nat → Int32) (m_size : Int32) (m_at : Int32) (m_begin : Int32) (m_token : Int32) (m_told : Int32) (m_read : Nat → Int32) (m_harbour : Nat → Int32) (m_now : Nat → Int32) (m_undone : Nat → Int32) (m_undos : Int32) (m_one : Int32) (m_two : Int32) (m_three : Int32) (m_chalks : Int32) (m_cb : Nat → Int32) (m_co : Nat → Int32) (m_trace : Int64) (m_kept : Nat → Int32) (n1 : Int32) (n2 : Int32) (X : tg_X) (hl0 : tg_l X = l) (C : tg_C X D 6 cX5_wins RX5 1 22 0 0) (o_n3 : Int32) (o_n4 : Int32) : ∀ (fuel : Nat) (n3 : Int32) (n4 : Int32), fX5_wins_L5 m_harbour n1 n2 fuel n3 n4 = some (o_n3, o_n4) → tg_G X D 6 0 0 (tw_M D o0 o1 o2 o3 o4 o5 o6 o7 o8 m_text m_size m_at m_begin m_token m_told m_read m_harbour m_now m_undone m_undos m_one m_two m_three m_chalks m_cb m_co m_trace m_kept) [(0, .ref o0), (1, .int n1), (2, .int n2), (3, .int o_n3), (4, .int o_n4)] 65 [] → tg_G X D 6 0 0 (tw_M D o0 o1 o2 o3 o4 o5 o6 o7 o8 m_text m_size m_at m_begin m_token m_told m_read m_harbour m_now m_undone m_undos m_one m_two m_three m_chalks m_cb m_co m_trace m_kept) [(0, .ref o0), (1, .int n1), (2, .int n2), (3, .int n3), (4, .int n4)] 5 [] := by
  intro fuel
  induction fuel with
  | zero =>
    intro n3 n4 hs _
    rw [fX5_wins_L5] at hs
    cases hs
  | succ fuel ih =>
    intro n3 n4 hs J
    rw [fX5_wins_L5] at hs
    refine tg_iload C dX5_wins_5 4 rfl ?_
    refine tg_aload_n C dX5_wins_7 rfl 0 rfl ?_
    refine tg_iload_n C dX5_wins_8 rfl 1 rfl ?_
    obtain ⟨rr1, ee2, hs⟩ := tg_b1_e hs
    refine tg_pVs (As := [.int n1]) (rest := [.int n4]) C hl0 (kX5_faces l D o0 o1 o2 o3 o4 o5 o6 o7 o8 m_text m_size m_at m_begin m_token m_told m_read m_harbour m_now m_undone m_undos m_one m_two m_three m_chalks m_cb m_co m_trace m_kept n1 rr1 ee2) wm_827 meX5_faces (by decide) rfl rfl rfl rfl (Nat.le_of_ble_eq_true rfl) dX5_wins_9 ?_
    refine tg_icmp_ge (tgt := 65) C dX5_wins_12 (by decide) (fun cc3 => ?_) (fun cc3 => ?_)
    · have hs := tg_t cc3 hs
      obtain ⟨rfl, rfl⟩ := tg_i2 hs
      exact J
    · have hs := tg_f cc3 hs
      refine tg_iconst (v := 0) C dX5_wins_15 (by decide) ?_
      refine tg_istore (lv' := [(5, .int 0), (0, .ref o0), (1, .int n1), (2, .int n2), (3, .int n3), (4, .int n4)]) C dX5_wins_16 (by decide) rfl ?_
      refine tg_lsub [1, 2, 3, 4, 5, 0] rfl ?_
      obtain ⟨vv17, vv18, ee19, hs⟩ := tg_b2_e hs
      refine vX5_wins_L18 l D o0 o1 o2 o3 o4 o5 o6 o7 o8 m_text m_size m_at m_begin m_token m_told m_read m_harbour m_now m_undone m_undos m_one m_two m_three m_chalks m_cb m_co m_trace m_kept n1 n2 n4 X hl0 C vv17 vv18 400 n3 0 ee19 ?_
      obtain ⟨vv20, evv20, hs⟩ := tg_nm_e hs
      refine tg_iinc (v := vv20) (lv' := [(4, .int vv20), (0, .ref o0), (1, .int n1), (2, .int n2), (3, .int vv17), (5, .int vv18)]) C dX5_wins_59 4 rfl (by rw [evv20]; rfl) (by decide) rfl ?_
      refine tg_goto (tgt := 5) C dX5_wins_62 (by decide) ?_
      refine tg_lsub [1, 2, 3, 4, 0] rfl ?_
      exact ih vv17 vv20 hs J
set_option maxHeartbeats 2000000 in
set_option maxRecDepth 20000 in
theorem vX5_wins (l : Launch) (D : tg_D) (o0 o1 o2 o3 o4 o5 o6 o7 o8 : Nat) (m_text : Nat → Int32) (m_size : Int32) (m_at : Int32) (m_begin : Int32) (m_token : Int32) (m_told : Int32) (m_read : Nat → Int32) (m_harbour : Nat → Int32) (m_now : Nat → Int32) (m_undone : Nat → Int32) (m_undos : Int32) (m_one : Int32) (m_two : Int32) (m_three : Int32) (m_chalks : Int32) (m_cb : Nat → Int32) (m_co : Nat → Int32) (m_trace : Int64) (m_kept : Nat → Int32) (p1 : Int32) (p2 : Int32) (X : tg_X) (hl0 : tg_l X = l) (C : tg_C X D 6 cX5_wins RX5 1 22 0 0) (r : Int32) (hs : fX5_wins m_harbour p1 p2 = some r) (hE : tg_Ei X D 0 0 cX5_wins .int r (tw_M D o0 o1 o2 o3 o4 o5 o6 o7 o8 m_text m_size m_at m_begin m_token m_told m_read m_harbour m_now m_undone m_undos m_one m_two m_three m_chalks m_cb m_co m_trace m_kept)) : tg_G X D 6 0 0 (tw_M D o0 o1 o2 o3 o4 o5 o6 o7 o8 m_text m_size m_at m_begin m_token m_told m_read m_harbour m_now m_undone m_undos m_one m_two m_three m_chalks m_cb m_co m_trace m_kept) [(0, .ref o0), (1, .int p1), (2, .int p2)] 0 [] := by
  unfold fX5_wins at hs
  refine tg_iconst (v := 0) C dX5_wins_0 (by decide) ?_
  refine tg_istore_n (lv' := [(3, .int 0), (0, .ref o0), (1, .int p1), (2, .int p2)]) C dX5_wins_1 rfl (by decide) rfl ?_
  refine tg_iconst (v := 0) C dX5_wins_2 (by decide) ?_
  refine tg_istore (lv' := [(4, .int 0), (3, .int 0), (0, .ref o0), (1, .int p1), (2, .int p2)]) C dX5_wins_3 (by decide) rfl ?_
  refine tg_lsub [2, 3, 4, 1, 0] rfl ?_
  obtain ⟨vv21, vv22, ee23, hs⟩ := tg_b2_e hs
  refine vX5_wins_L5 l D o0 o1 o2 o3 o4 o5 o6 o7 o8 m_text m_size m_at m_begin m_token m_told m_read m_harbour m_now m_undone m_undos m_one m_two m_three m_chalks m_cb m_co m_trace m_kept p1 p2 X hl0 C vv21 vv22 400 0 0 ee23 ?_
  refine tg_iload_n C dX5_wins_65 rfl 3 rfl ?_
  obtain rfl := Option.some.inj hs
  exact tg_iret hE rfl dX5_wins_66
set_option maxHeartbeats 2000000 in
set_option maxRecDepth 20000 in
theorem kX5_wins (l : Launch) (D : tg_D) (o0 o1 o2 o3 o4 o5 o6 o7 o8 : Nat) (m_text : Nat → Int32) (m_size : Int32) (m_at : Int32) (m_begin : Int32) (m_token : Int32) (m_told : Int32) (m_read : Nat → Int32) (m_harbour : Nat → Int32) (m_now : Nat → Int32) (m_undone : Nat → Int32) (m_undos : Int32) (m_one : Int32) (m_two : Int32) (m_three : Int32) (m_chalks : Int32) (m_cb : Nat → Int32) (m_co : Nat → Int32) (m_trace : Int64) (m_kept : Nat → Int32) (p1 : Int32) (p2 : Int32) (r : Int32) (hs : fX5_wins m_harbour p1 p2 = some r) : Met l yX5_wins [Cond.code yX5_wins cX5_wins 6 (some .int)] (tg_rm 1 22) (tg_Pre D (tw_M D o0 o1 o2 o3 o4 o5 o6 o7 o8 m_text m_size m_at m_begin m_token m_told m_read m_harbour m_now m_undone m_undos m_one m_two m_three m_chalks m_cb m_co m_trace m_kept) [.ref o0, .int p1, .int p2]) (vp_Si (fun r' => r' = r)) 0 0 (fun _ => False) := tg_metI (by decide) (Nat.le_of_ble_eq_true rfl) (fun X hl0 C hE => vX5_wins l D o0 o1 o2 o3 o4 o5 o6 o7 o8 m_text m_size m_at m_begin m_token m_told m_read m_harbour m_now m_undone m_undos m_one m_two m_three m_chalks m_cb m_co m_trace m_kept p1 p2 X hl0 C r hs hE)
