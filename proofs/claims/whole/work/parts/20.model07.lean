def fX5_wise_L28 (m_harbour : Nat → Int32) (m_now : Nat → Int32) (n2 : Int32) : Nat → Int32 → Int32 → Int32 → Int32 → Int32 → Int32 → Option (Int32 × Int32 × Int32 × Int32 × Int32 × Int32)
  | 0, _, _, _, _, _, _ => none
  | fuel + 1, m_one, m_two, m_three, n3, n4, n5 => if (m_harbour 0) < n5 then (some (m_one, m_two, m_three, n3, n4, n5)) else (tg_b5 (if ¬ ((n2 >>> (n5 &&& 31)) &&& 1) = 1 then (some (m_one, m_two, m_three, n3, n4)) else (tg_b1 (fX5_free m_harbour m_now) fun rr14 => tg_b4 (fX5_throwsFor m_harbour m_now m_one m_two m_three (rr14 &&& ((1 <<< (n5 &&& 31)) ^^^ (-1)))) fun rr16 vv17 vv18 vv19 => tg_b1 (if n3 = (-9) then (some (1 : Int32)) else (if n4 ≤ rr16 then (some (0 : Int32)) else (some (1 : Int32)))) fun (vv22 : Int32) => tg_b1 (if vv22 = 0 then (some n3) else (some n5)) fun (vv26 : Int32) => tg_b1 (if vv22 = 0 then (some n4) else (some rr16)) fun (vv29 : Int32) => some (vv17, vv18, vv19, vv26, vv29))) fun (vv8 : Int32) (vv9 : Int32) (vv10 : Int32) (vv11 : Int32) (vv12 : Int32) => tg_nm (n5 + 1) fun vv34 => fX5_wise_L28 m_harbour m_now n2 fuel vv8 vv9 vv10 vv11 vv12 vv34)
def fX5_wise (m_harbour : Nat → Int32) (m_now : Nat → Int32) (m_one : Int32) (m_two : Int32) (m_three : Int32) (p1 : Int32) : Option (Int32 × Int32 × Int32 × Int32) := tg_b1 (fX5_in (Int32.toInt64 p1) 0 1) fun rr1 => if ¬ rr1 = 0 then (tg_b1 (fX5_now m_harbour m_now 3) fun rr4 => tg_b6 (fX5_wise_L28 m_harbour m_now rr4 400 m_one m_two m_three (-9) (-9) 1) fun vv36 vv37 vv38 vv39 vv40 vv41 => if ¬ p1 = 0 then (some (vv40, vv36, vv37, vv38)) else (some (vv39, vv36, vv37, vv38))) else (some ((-1), m_one, m_two, m_three))
set_option maxHeartbeats 2000000 in
set_option maxRecDepth 20000 in
theorem vX5_wise_L28 (l : Launch) (D : tg_D) (o0 o1 o2 o3 o4 o5 o6 o7 o8 : Nat) (m_text : Nat → Int32) (m_size : Int32) (m_at : Int32) (m_begin : Int32) (m_token : Int32) (m_told : Int32) (m_read : Nat → Int32) (m_harbour : Nat → Int32) (m_now : Nat → Int32) (m_undone : Nat → Int32) (m_undos : Int32) (m_chalks : Int32) (m_cb : Nat → Int32) (m_co : Nat → Int32) (m_trace : Int64) (m_kept : Nat → Int32) (n1 : Int32) (n2 : Int32) (X : tg_X) (hl0 : tg_l X = l) (C : tg_C X D 8 cX5_wise RX5 4 85 0 0) (V : tg_V X) (o_m_one : Int32) (o_m_two : Int32) (o_m_three : Int32) (o_n3 : Int32) (o_n4 : Int32) (o_n5 : Int32) : ∀ (fuel : Nat) (m_one : Int32) (m_two : Int32) (m_three : Int32) (n3 : Int32) (n4 : Int32) (n5 : Int32), fX5_wise_L28 m_harbour m_now n2 fuel m_one m_two m_three n3 n4 n5 = some (o_m_one, o_m_two, o_m_three, o_n3, o_n4, o_n5) → tg_G X D 8 0 0 (tw_M D o0 o1 o2 o3 o4 o5 o6 o7 o8 m_text m_size m_at m_begin m_token m_told m_read m_harbour m_now m_undone m_undos o_m_one o_m_two o_m_three m_chalks m_cb m_co m_trace m_kept) [(0, .ref o0), (1, .int n1), (2, .int n2), (3, .int o_n3), (4, .int o_n4), (5, .int o_n5)] 118 [] → tg_G X D 8 0 0 (tw_M D o0 o1 o2 o3 o4 o5 o6 o7 o8 m_text m_size m_at m_begin m_token m_told m_read m_harbour m_now m_undone m_undos m_one m_two m_three m_chalks m_cb m_co m_trace m_kept) [(0, .ref o0), (1, .int n1), (2, .int n2), (3, .int n3), (4, .int n4), (5, .int n5)] 28 [] := by
  intro fuel
  induction fuel with
  | zero =>
    intro m_one m_two m_three n3 n4 n5 hs _
    rw [fX5_wise_L28] at hs
    cases hs
  | succ fuel ih =>
    intro m_one m_two m_three n3 n4 n5 hs J
    rw [fX5_wise_L28] at hs
    refine tg_iload C dX5_wise_28 5 rfl ?_
    refine tg_aload_n C dX5_wise_30 rfl 0 rfl ?_
    refine tg_get (v := .ref o3) C cfX5 0 rfl 7 (by decide) wm_712 rfl dX5_wise_31 ?_
    refine tg_iconst (v := 0) C dX5_wise_34 (by decide) ?_
    refine tg_iald C 3 0 rfl rfl (tg_vin (by decide)) dX5_wise_35 ?_
    refine tg_topi (y := m_harbour 0) rfl ?_
    refine tg_icmp_gt (tgt := 118) C dX5_wise_36 (by decide) (fun cc6 => ?_) (fun cc6 => ?_)
    · have hs := tg_t cc6 hs
      obtain ⟨rfl, rfl, rfl, rfl, rfl, rfl⟩ := tg_i6 hs
      exact J
    · have hs := tg_f cc6 hs
      refine tg_iload_n C dX5_wise_39 rfl 2 rfl ?_
      refine tg_iload C dX5_wise_40 5 rfl ?_
      refine tg_ishr C dX5_wise_42 ?_
      refine tg_iconst (v := 1) C dX5_wise_43 (by decide) ?_
      refine tg_iand C dX5_wise_44 ?_
      refine tg_iconst (v := 1) C dX5_wise_45 (by decide) ?_
      obtain ⟨vv8, vv9, vv10, vv11, vv12, ee35, hs⟩ := tg_b5_e hs
      have JJ13 : tg_G X D 8 0 0 (tw_M D o0 o1 o2 o3 o4 o5 o6 o7 o8 m_text m_size m_at m_begin m_token m_told m_read m_harbour m_now m_undone m_undos vv8 vv9 vv10 m_chalks m_cb m_co m_trace m_kept) [(0, .ref o0), (1, .int n1), (2, .int n2), (3, .int vv11), (4, .int vv12), (5, .int n5)] 112 [] := by
        obtain ⟨vv34, evv34, hs⟩ := tg_nm_e hs
        refine tg_iinc (v := vv34) (lv' := [(5, .int vv34), (0, .ref o0), (1, .int n1), (2, .int n2), (3, .int vv11), (4, .int vv12)]) C dX5_wise_112 5 rfl (by rw [evv34]; rfl) (by decide) rfl ?_
        refine tg_goto (tgt := 28) C dX5_wise_115 (by decide) ?_
        refine tg_lsub [1, 2, 3, 4, 5, 0] rfl ?_
        exact ih vv8 vv9 vv10 vv11 vv12 vv34 hs J
      have hs := ee35
      clear ee35
      refine tg_icmp_ne (tgt := 112) C dX5_wise_46 (by decide) (fun cc7 => ?_) (fun cc7 => ?_)
      · have hs := tg_t cc7 hs
        obtain ⟨rfl, rfl, rfl, rfl, rfl⟩ := tg_i5 hs
        exact JJ13
      · have hs := tg_nf cc7 hs
        refine tg_aload_n C dX5_wise_49 rfl 0 rfl ?_
        refine tg_aload_n C dX5_wise_50 rfl 0 rfl ?_
        obtain ⟨rr14, ee15, hs⟩ := tg_b1_e hs
        refine tg_pVs (As := []) (rest := [.ref o0]) C hl0 (kX5_free l D o0 o1 o2 o3 o4 o5 o6 o7 o8 m_text m_size m_at m_begin m_token m_told m_read m_harbour m_now m_undone m_undos m_one m_two m_three m_chalks m_cb m_co m_trace m_kept rr14 ee15) wm_875 meX5_free (by decide) rfl rfl rfl rfl (Nat.le_of_ble_eq_true rfl) dX5_wise_51 ?_
        refine tg_iconst (v := 1) C dX5_wise_54 (by decide) ?_
        refine tg_iload C dX5_wise_55 5 rfl ?_
        refine tg_ishl C dX5_wise_57 ?_
        refine tg_iconst (v := (-1)) C dX5_wise_58 (by decide) ?_
        refine tg_ixor C dX5_wise_59 ?_
        refine tg_iand C dX5_wise_60 ?_
        obtain ⟨rr16, vv17, vv18, vv19, ee20, hs⟩ := tg_b4_e hs
        refine tg_eVs (ws' := (tw_M D o0 o1 o2 o3 o4 o5 o6 o7 o8 m_text m_size m_at m_begin m_token m_told m_read m_harbour m_now m_undone m_undos vv17 vv18 vv19 m_chalks m_cb m_co m_trace m_kept)) (As := [.int (rr14 &&& ((1 <<< (n5 &&& 31)) ^^^ (-1)))]) (rest := []) C V hl0 (kX5_throwsFor l D o0 o1 o2 o3 o4 o5 o6 o7 o8 m_text m_size m_at m_begin m_token m_told m_read m_harbour m_now m_undone m_undos m_one m_two m_three m_chalks m_cb m_co m_trace m_kept (rr14 &&& ((1 <<< (n5 &&& 31)) ^^^ (-1))) rr16 vv17 vv18 vv19 ee20) wm_947 meX5_throwsFor (by decide) rfl rfl rfl rfl (Nat.le_of_ble_eq_true rfl) rfl dX5_wise_61 ?_
        refine tg_istore (lv' := [(6, .int rr16), (0, .ref o0), (1, .int n1), (2, .int n2), (3, .int n3), (4, .int n4), (5, .int n5)]) C dX5_wise_64 (by decide) rfl ?_
        refine tg_iload_n C dX5_wise_66 rfl 4 rfl ?_
        refine tg_bipush (v := (-9)) C dX5_wise_67 (by decide) ?_
        obtain ⟨vv22, ee33, hs⟩ := tg_b1_e hs
        have JJ23 : tg_G X D 8 0 0 (tw_M D o0 o1 o2 o3 o4 o5 o6 o7 o8 m_text m_size m_at m_begin m_token m_told m_read m_harbour m_now m_undone m_undos vv17 vv18 vv19 m_chalks m_cb m_co m_trace m_kept) [(0, .ref o0), (1, .int n1), (2, .int n2), (3, .int n3), (4, .int n4), (5, .int n5), (6, .int rr16)] 84 [.int vv22] := by
          refine tg_istore (lv' := [(7, .int vv22), (0, .ref o0), (1, .int n1), (2, .int n2), (3, .int n3), (4, .int n4), (5, .int n5), (6, .int rr16)]) C dX5_wise_84 (by decide) rfl ?_
          refine tg_iload C dX5_wise_86 0 rfl ?_
          obtain ⟨vv26, ee32, hs⟩ := tg_b1_e hs
          have JJ27 : tg_G X D 8 0 0 (tw_M D o0 o1 o2 o3 o4 o5 o6 o7 o8 m_text m_size m_at m_begin m_token m_told m_read m_harbour m_now m_undone m_undos vv17 vv18 vv19 m_chalks m_cb m_co m_trace m_kept) [(0, .ref o0), (1, .int n1), (2, .int n2), (3, .int n3), (4, .int n4), (5, .int n5), (6, .int rr16), (7, .int vv22)] 97 [.int vv26] := by
            refine tg_istore_n (lv' := [(3, .int vv26), (0, .ref o0), (1, .int n1), (2, .int n2), (4, .int n4), (5, .int n5), (6, .int rr16), (7, .int vv22)]) C dX5_wise_97 rfl (by decide) rfl ?_
            refine tg_iload C dX5_wise_98 7 rfl ?_
            obtain ⟨vv29, ee31, hs⟩ := tg_b1_e hs
            have JJ30 : tg_G X D 8 0 0 (tw_M D o0 o1 o2 o3 o4 o5 o6 o7 o8 m_text m_size m_at m_begin m_token m_told m_read m_harbour m_now m_undone m_undos vv17 vv18 vv19 m_chalks m_cb m_co m_trace m_kept) [(0, .ref o0), (1, .int n1), (2, .int n2), (3, .int vv26), (4, .int n4), (5, .int n5), (6, .int rr16), (7, .int vv22)] 110 [.int vv29] := by
              refine tg_istore (lv' := [(4, .int vv29), (0, .ref o0), (1, .int n1), (2, .int n2), (3, .int vv26), (5, .int n5), (6, .int rr16), (7, .int vv22)]) C dX5_wise_110 (by decide) rfl ?_
              obtain ⟨rfl, rfl, rfl, rfl, rfl⟩ := tg_i5 hs
              refine tg_lsub [1, 2, 3, 4, 0, 5] rfl ?_
              exact JJ13
            have hs := ee31
            clear ee31
            refine tg_if_eq (tgt := 108) C dX5_wise_100 (by decide) (fun cc28 => ?_) (fun cc28 => ?_)
            · have hs := tg_t cc28 hs
              refine tg_iload C dX5_wise_108 4 rfl ?_
              obtain rfl := Option.some.inj hs
              refine tg_lsub [1, 2, 3, 0, 4, 5, 6, 7] rfl ?_
              exact JJ30
            · have hs := tg_f cc28 hs
              refine tg_iload C dX5_wise_103 6 rfl ?_
              refine tg_goto (tgt := 110) C dX5_wise_105 (by decide) ?_
              obtain rfl := Option.some.inj hs
              refine tg_lsub [1, 2, 3, 0, 4, 5, 6, 7] rfl ?_
              exact JJ30
          have hs := ee32
          clear ee32
          refine tg_if_eq (tgt := 96) C dX5_wise_88 (by decide) (fun cc25 => ?_) (fun cc25 => ?_)
          · have hs := tg_t cc25 hs
            refine tg_iload_n C dX5_wise_96 rfl 4 rfl ?_
            obtain rfl := Option.some.inj hs
            refine tg_lsub [1, 2, 3, 4, 5, 6, 7, 0] rfl ?_
            exact JJ27
          · have hs := tg_f cc25 hs
            refine tg_iload C dX5_wise_91 6 rfl ?_
            refine tg_goto (tgt := 97) C dX5_wise_93 (by decide) ?_
            obtain rfl := Option.some.inj hs
            refine tg_lsub [1, 2, 3, 4, 5, 6, 7, 0] rfl ?_
            exact JJ27
        have hs := ee33
        clear ee33
        refine tg_icmp_eq (tgt := 79) C dX5_wise_69 (by decide) (fun cc21 => ?_) (fun cc21 => ?_)
        · have hs := tg_t cc21 hs
          refine tg_iconst (v := 1) C dX5_wise_79 (by decide) ?_
          refine tg_goto (tgt := 84) C dX5_wise_80 (by decide) ?_
          obtain rfl := Option.some.inj hs
          refine tg_lsub [1, 2, 3, 4, 5, 6, 0] rfl ?_
          exact JJ23
        · have hs := tg_f cc21 hs
          refine tg_iload C dX5_wise_72 0 rfl ?_
          refine tg_iload C dX5_wise_74 5 rfl ?_
          refine tg_icmp_ge (tgt := 83) C dX5_wise_76 (by decide) (fun cc24 => ?_) (fun cc24 => ?_)
          · have hs := tg_t cc24 hs
            refine tg_iconst (v := 0) C dX5_wise_83 (by decide) ?_
            obtain rfl := Option.some.inj hs
            refine tg_lsub [1, 2, 3, 4, 5, 6, 0] rfl ?_
            exact JJ23
          · have hs := tg_f cc24 hs
            refine tg_iconst (v := 1) C dX5_wise_79 (by decide) ?_
            refine tg_goto (tgt := 84) C dX5_wise_80 (by decide) ?_
            obtain rfl := Option.some.inj hs
            refine tg_lsub [1, 2, 3, 4, 5, 6, 0] rfl ?_
            exact JJ23
set_option maxHeartbeats 2000000 in
set_option maxRecDepth 20000 in
theorem vX5_wise (l : Launch) (D : tg_D) (o0 o1 o2 o3 o4 o5 o6 o7 o8 : Nat) (m_text : Nat → Int32) (m_size : Int32) (m_at : Int32) (m_begin : Int32) (m_token : Int32) (m_told : Int32) (m_read : Nat → Int32) (m_harbour : Nat → Int32) (m_now : Nat → Int32) (m_undone : Nat → Int32) (m_undos : Int32) (m_one : Int32) (m_two : Int32) (m_three : Int32) (m_chalks : Int32) (m_cb : Nat → Int32) (m_co : Nat → Int32) (m_trace : Int64) (m_kept : Nat → Int32) (p1 : Int32) (X : tg_X) (hl0 : tg_l X = l) (C : tg_C X D 8 cX5_wise RX5 4 85 0 0) (V : tg_V X) (r : Int32) (q_m_one : Int32) (q_m_two : Int32) (q_m_three : Int32) (hs : fX5_wise m_harbour m_now m_one m_two m_three p1 = some (r, q_m_one, q_m_two, q_m_three)) (hE : tg_Ei X D 0 0 cX5_wise .int r (tw_M D o0 o1 o2 o3 o4 o5 o6 o7 o8 m_text m_size m_at m_begin m_token m_told m_read m_harbour m_now m_undone m_undos q_m_one q_m_two q_m_three m_chalks m_cb m_co m_trace m_kept)) : tg_G X D 8 0 0 (tw_M D o0 o1 o2 o3 o4 o5 o6 o7 o8 m_text m_size m_at m_begin m_token m_told m_read m_harbour m_now m_undone m_undos m_one m_two m_three m_chalks m_cb m_co m_trace m_kept) [(0, .ref o0), (1, .int p1)] 0 [] := by
  unfold fX5_wise at hs
  refine tg_iload_n C dX5_wise_0 rfl 1 rfl ?_
  refine tg_i2l C dX5_wise_1 ?_
  refine tg_lconst (v := 0) C dX5_wise_2 (by decide) ?_
  refine tg_lconst (v := 1) C dX5_wise_3 (by decide) ?_
  obtain ⟨rr1, ee2, hs⟩ := tg_b1_e hs
  refine tg_pS (As := [.long (Int32.toInt64 p1), .long 0, .long 1]) (rest := []) C hl0 (kX5_in l D (Int32.toInt64 p1) 0 1 rr1 ee2) wm_768 meX5_in (by decide) rfl rfl (Nat.le_of_ble_eq_true rfl) dX5_wise_4 ?_
  refine tg_if_ne (tgt := 12) C dX5_wise_7 (by decide) (fun cc3 => ?_) (fun cc3 => ?_)
  · have hs := tg_t cc3 hs
    refine tg_aload_n C dX5_wise_12 rfl 0 rfl ?_
    refine tg_iconst (v := 3) C dX5_wise_13 (by decide) ?_
    obtain ⟨rr4, ee5, hs⟩ := tg_b1_e hs
    refine tg_pVs (As := [.int 3]) (rest := []) C hl0 (kX5_now l D o0 o1 o2 o3 o4 o5 o6 o7 o8 m_text m_size m_at m_begin m_token m_told m_read m_harbour m_now m_undone m_undos m_one m_two m_three m_chalks m_cb m_co m_trace m_kept 3 rr4 ee5) wm_966 meX5_now (by decide) rfl rfl rfl rfl (Nat.le_of_ble_eq_true rfl) dX5_wise_14 ?_
    refine tg_istore_n (lv' := [(2, .int rr4), (0, .ref o0), (1, .int p1)]) C dX5_wise_17 rfl (by decide) rfl ?_
    refine tg_bipush (v := (-9)) C dX5_wise_18 (by decide) ?_
    refine tg_istore_n (lv' := [(3, .int (-9)), (2, .int rr4), (0, .ref o0), (1, .int p1)]) C dX5_wise_20 rfl (by decide) rfl ?_
    refine tg_bipush (v := (-9)) C dX5_wise_21 (by decide) ?_
    refine tg_istore (lv' := [(4, .int (-9)), (3, .int (-9)), (2, .int rr4), (0, .ref o0), (1, .int p1)]) C dX5_wise_23 (by decide) rfl ?_
    refine tg_iconst (v := 1) C dX5_wise_25 (by decide) ?_
    refine tg_istore (lv' := [(5, .int 1), (4, .int (-9)), (3, .int (-9)), (2, .int rr4), (0, .ref o0), (1, .int p1)]) C dX5_wise_26 (by decide) rfl ?_
    refine tg_lsub [4, 5, 3, 2, 1, 0] rfl ?_
    obtain ⟨vv36, vv37, vv38, vv39, vv40, vv41, ee42, hs⟩ := tg_b6_e hs
    refine vX5_wise_L28 l D o0 o1 o2 o3 o4 o5 o6 o7 o8 m_text m_size m_at m_begin m_token m_told m_read m_harbour m_now m_undone m_undos m_chalks m_cb m_co m_trace m_kept p1 rr4 X hl0 C V vv36 vv37 vv38 vv39 vv40 vv41 400 m_one m_two m_three (-9) (-9) 1 ee42 ?_
    refine tg_iload_n C dX5_wise_118 rfl 1 rfl ?_
    refine tg_if_ne (tgt := 126) C dX5_wise_119 (by decide) (fun cc43 => ?_) (fun cc43 => ?_)
    · have hs := tg_t cc43 hs
      refine tg_iload C dX5_wise_126 4 rfl ?_
      obtain ⟨rfl, rfl, rfl, rfl⟩ := tg_i4 hs
      exact tg_iret hE rfl dX5_wise_128
    · have hs := tg_nf cc43 hs
      refine tg_iload_n C dX5_wise_122 rfl 3 rfl ?_
      refine tg_goto (tgt := 128) C dX5_wise_123 (by decide) ?_
      obtain ⟨rfl, rfl, rfl, rfl⟩ := tg_i4 hs
      exact tg_iret hE rfl dX5_wise_128
  · have hs := tg_nf cc3 hs
    refine tg_iconst (v := (-1)) C dX5_wise_10 (by decide) ?_
    obtain ⟨rfl, rfl, rfl, rfl⟩ := tg_i4 hs
    exact tg_iret hE rfl dX5_wise_11
set_option maxHeartbeats 2000000 in
set_option maxRecDepth 20000 in
theorem kX5_wise (l : Launch) (D : tg_D) (o0 o1 o2 o3 o4 o5 o6 o7 o8 : Nat) (m_text : Nat → Int32) (m_size : Int32) (m_at : Int32) (m_begin : Int32) (m_token : Int32) (m_told : Int32) (m_read : Nat → Int32) (m_harbour : Nat → Int32) (m_now : Nat → Int32) (m_undone : Nat → Int32) (m_undos : Int32) (m_one : Int32) (m_two : Int32) (m_three : Int32) (m_chalks : Int32) (m_cb : Nat → Int32) (m_co : Nat → Int32) (m_trace : Int64) (m_kept : Nat → Int32) (p1 : Int32) (r : Int32) (q_m_one : Int32) (q_m_two : Int32) (q_m_three : Int32) (hs : fX5_wise m_harbour m_now m_one m_two m_three p1 = some (r, q_m_one, q_m_two, q_m_three)) : Met l yX5_wise [Cond.code yX5_wise cX5_wise 8 (some .int)] (tg_rm 4 85) (tg_Pre D (tw_M D o0 o1 o2 o3 o4 o5 o6 o7 o8 m_text m_size m_at m_begin m_token m_told m_read m_harbour m_now m_undone m_undos m_one m_two m_three m_chalks m_cb m_co m_trace m_kept) [.ref o0, .int p1]) (tg_Qe (some (.int r)) D (tw_M D o0 o1 o2 o3 o4 o5 o6 o7 o8 m_text m_size m_at m_begin m_token m_told m_read m_harbour m_now m_undone m_undos q_m_one q_m_two q_m_three m_chalks m_cb m_co m_trace m_kept) (tg_Ad (tw_M D o0 o1 o2 o3 o4 o5 o6 o7 o8 m_text m_size m_at m_begin m_token m_told m_read m_harbour m_now m_undone m_undos m_one m_two m_three m_chalks m_cb m_co m_trace m_kept))) 0 0 (tg_Ad (tw_M D o0 o1 o2 o3 o4 o5 o6 o7 o8 m_text m_size m_at m_begin m_token m_told m_read m_harbour m_now m_undone m_undos m_one m_two m_three m_chalks m_cb m_co m_trace m_kept)) := tg_metEi (by decide) (Nat.le_of_ble_eq_true rfl) (fun X hl0 C V hE => vX5_wise l D o0 o1 o2 o3 o4 o5 o6 o7 o8 m_text m_size m_at m_begin m_token m_told m_read m_harbour m_now m_undone m_undos m_one m_two m_three m_chalks m_cb m_co m_trace m_kept p1 X hl0 C V r q_m_one q_m_two q_m_three hs hE)
def fX5_cheap_L11 (m_harbour : Nat → Int32) (m_now : Nat → Int32) (n1 : Int32) : Nat → Int32 → Int32 → Option (Int32 × Int32)
  | 0, _, _ => none
  | fuel + 1, n2, n3 => if (m_harbour 0) < n3 then (some (n2, n3)) else (tg_b1 (if ¬ ((n1 >>> (n3 &&& 31)) &&& 1) = 1 then (some n2) else (if n2 = (-9) then (some n3) else (tg_b1 (fX5_gives m_harbour m_now n3) fun rr8 => tg_b1 (fX5_gives m_harbour m_now n2) fun rr10 => if rr10 ≤ rr8 then (some n2) else (some n3)))) fun (vv5 : Int32) => tg_nm (n3 + 1) fun vv13 => fX5_cheap_L11 m_harbour m_now n1 fuel vv5 vv13)
def fX5_cheap (m_harbour : Nat → Int32) (m_now : Nat → Int32) : Option (Int32) := tg_b1 (fX5_now m_harbour m_now 3) fun rr1 => tg_b2 (fX5_cheap_L11 m_harbour m_now rr1 400 (-9) 1) fun vv15 vv16 => some vv15
set_option maxHeartbeats 2000000 in
set_option maxRecDepth 20000 in
theorem vX5_cheap_L11 (l : Launch) (D : tg_D) (o0 o1 o2 o3 o4 o5 o6 o7 o8 : Nat) (m_text : Nat → Int32) (m_size : Int32) (m_at : Int32) (m_begin : Int32) (m_token : Int32) (m_told : Int32) (m_read : Nat → Int32) (m_harbour : Nat → Int32) (m_now : Nat → Int32) (m_undone : Nat → Int32) (m_undos : Int32) (m_one : Int32) (m_two : Int32) (m_three : Int32) (m_chalks : Int32) (m_cb : Nat → Int32) (m_co : Nat → Int32) (m_trace : Int64) (m_kept : Nat → Int32) (n1 : Int32) (X : tg_X) (hl0 : tg_l X = l) (C : tg_C X D 4 cX5_cheap RX5 4 85 0 0) (o_n2 : Int32) (o_n3 : Int32) : ∀ (fuel : Nat) (n2 : Int32) (n3 : Int32), fX5_cheap_L11 m_harbour m_now n1 fuel n2 n3 = some (o_n2, o_n3) → tg_G X D 4 0 0 (tw_M D o0 o1 o2 o3 o4 o5 o6 o7 o8 m_text m_size m_at m_begin m_token m_told m_read m_harbour m_now m_undone m_undos m_one m_two m_three m_chalks m_cb m_co m_trace m_kept) [(0, .ref o0), (1, .int n1), (2, .int o_n2), (3, .int o_n3)] 61 [] → tg_G X D 4 0 0 (tw_M D o0 o1 o2 o3 o4 o5 o6 o7 o8 m_text m_size m_at m_begin m_token m_told m_read m_harbour m_now m_undone m_undos m_one m_two m_three m_chalks m_cb m_co m_trace m_kept) [(0, .ref o0), (1, .int n1), (2, .int n2), (3, .int n3)] 11 [] := by
  intro fuel
  induction fuel with
  | zero =>
    intro n2 n3 hs _
    rw [fX5_cheap_L11] at hs
    cases hs
  | succ fuel ih =>
    intro n2 n3 hs J
    rw [fX5_cheap_L11] at hs
    refine tg_iload_n C dX5_cheap_11 rfl 3 rfl ?_
    refine tg_aload_n C dX5_cheap_12 rfl 0 rfl ?_
    refine tg_get (v := .ref o3) C cfX5 0 rfl 7 (by decide) wm_712 rfl dX5_cheap_13 ?_
    refine tg_iconst (v := 0) C dX5_cheap_16 (by decide) ?_
    refine tg_iald C 3 0 rfl rfl (tg_vin (by decide)) dX5_cheap_17 ?_
    refine tg_topi (y := m_harbour 0) rfl ?_
    refine tg_icmp_gt (tgt := 61) C dX5_cheap_18 (by decide) (fun cc3 => ?_) (fun cc3 => ?_)
    · have hs := tg_t cc3 hs
      obtain ⟨rfl, rfl⟩ := tg_i2 hs
      exact J
    · have hs := tg_f cc3 hs
      refine tg_iload_n C dX5_cheap_21 rfl 1 rfl ?_
      refine tg_iload_n C dX5_cheap_22 rfl 3 rfl ?_
      refine tg_ishr C dX5_cheap_23 ?_
      refine tg_iconst (v := 1) C dX5_cheap_24 (by decide) ?_
      refine tg_iand C dX5_cheap_25 ?_
      refine tg_iconst (v := 1) C dX5_cheap_26 (by decide) ?_
      obtain ⟨vv5, ee14, hs⟩ := tg_b1_e hs
      have JJ6 : tg_G X D 4 0 0 (tw_M D o0 o1 o2 o3 o4 o5 o6 o7 o8 m_text m_size m_at m_begin m_token m_told m_read m_harbour m_now m_undone m_undos m_one m_two m_three m_chalks m_cb m_co m_trace m_kept) [(0, .ref o0), (1, .int n1), (2, .int n2), (3, .int n3)] 54 [.int vv5] := by
        refine tg_istore_n (lv' := [(2, .int vv5), (0, .ref o0), (1, .int n1), (3, .int n3)]) C dX5_cheap_54 rfl (by decide) rfl ?_
        obtain ⟨vv13, evv13, hs⟩ := tg_nm_e hs
        refine tg_iinc (v := vv13) (lv' := [(3, .int vv13), (2, .int vv5), (0, .ref o0), (1, .int n1)]) C dX5_cheap_55 3 rfl (by rw [evv13]; rfl) (by decide) rfl ?_
        refine tg_goto (tgt := 11) C dX5_cheap_58 (by decide) ?_
        refine tg_lsub [2, 3, 1, 0] rfl ?_
        exact ih vv5 vv13 hs J
      have hs := ee14
      clear ee14
      refine tg_icmp_ne (tgt := 53) C dX5_cheap_27 (by decide) (fun cc4 => ?_) (fun cc4 => ?_)
      · have hs := tg_t cc4 hs
        refine tg_iload_n C dX5_cheap_53 rfl 2 rfl ?_
        obtain rfl := Option.some.inj hs
        exact JJ6
      · have hs := tg_nf cc4 hs
        refine tg_iload_n C dX5_cheap_30 rfl 2 rfl ?_
        refine tg_bipush (v := (-9)) C dX5_cheap_31 (by decide) ?_
        refine tg_icmp_eq (tgt := 49) C dX5_cheap_33 (by decide) (fun cc7 => ?_) (fun cc7 => ?_)
        · have hs := tg_t cc7 hs
          refine tg_iload_n C dX5_cheap_49 rfl 3 rfl ?_
          refine tg_goto (tgt := 54) C dX5_cheap_50 (by decide) ?_
          obtain rfl := Option.some.inj hs
          exact JJ6
        · have hs := tg_f cc7 hs
          refine tg_aload_n C dX5_cheap_36 rfl 0 rfl ?_
          refine tg_iload_n C dX5_cheap_37 rfl 3 rfl ?_
          obtain ⟨rr8, ee9, hs⟩ := tg_b1_e hs
          refine tg_pVs (As := [.int n3]) (rest := []) C hl0 (kX5_gives l D o0 o1 o2 o3 o4 o5 o6 o7 o8 m_text m_size m_at m_begin m_token m_told m_read m_harbour m_now m_undone m_undos m_one m_two m_three m_chalks m_cb m_co m_trace m_kept n3 rr8 ee9) wm_910 meX5_gives (by decide) rfl rfl rfl rfl (Nat.le_of_ble_eq_true rfl) dX5_cheap_38 ?_
          refine tg_aload_n C dX5_cheap_41 rfl 0 rfl ?_
          refine tg_iload_n C dX5_cheap_42 rfl 2 rfl ?_
          obtain ⟨rr10, ee11, hs⟩ := tg_b1_e hs
          refine tg_pVs (As := [.int n2]) (rest := [.int rr8]) C hl0 (kX5_gives l D o0 o1 o2 o3 o4 o5 o6 o7 o8 m_text m_size m_at m_begin m_token m_told m_read m_harbour m_now m_undone m_undos m_one m_two m_three m_chalks m_cb m_co m_trace m_kept n2 rr10 ee11) wm_910 meX5_gives (by decide) rfl rfl rfl rfl (Nat.le_of_ble_eq_true rfl) dX5_cheap_43 ?_
          refine tg_icmp_ge (tgt := 53) C dX5_cheap_46 (by decide) (fun cc12 => ?_) (fun cc12 => ?_)
          · have hs := tg_t cc12 hs
            refine tg_iload_n C dX5_cheap_53 rfl 2 rfl ?_
            obtain rfl := Option.some.inj hs
            exact JJ6
          · have hs := tg_f cc12 hs
            refine tg_iload_n C dX5_cheap_49 rfl 3 rfl ?_
            refine tg_goto (tgt := 54) C dX5_cheap_50 (by decide) ?_
            obtain rfl := Option.some.inj hs
            exact JJ6
set_option maxHeartbeats 2000000 in
set_option maxRecDepth 20000 in
theorem vX5_cheap (l : Launch) (D : tg_D) (o0 o1 o2 o3 o4 o5 o6 o7 o8 : Nat) (m_text : Nat → Int32) (m_size : Int32) (m_at : Int32) (m_begin : Int32) (m_token : Int32) (m_told : Int32) (m_read : Nat → Int32) (m_harbour : Nat → Int32) (m_now : Nat → Int32) (m_undone : Nat → Int32) (m_undos : Int32) (m_one : Int32) (m_two : Int32) (m_three : Int32) (m_chalks : Int32) (m_cb : Nat → Int32) (m_co : Nat → Int32) (m_trace : Int64) (m_kept : Nat → Int32) (X : tg_X) (hl0 : tg_l X = l) (C : tg_C X D 4 cX5_cheap RX5 4 85 0 0) (r : Int32) (hs : fX5_cheap m_harbour m_now = some r) (hE : tg_Ei X D 0 0 cX5_cheap .int r (tw_M D o0 o1 o2 o3 o4 o5 o6 o7 o8 m_text m_size m_at m_begin m_token m_told m_read m_harbour m_now m_undone m_undos m_one m_two m_three m_chalks m_cb m_co m_trace m_kept)) : tg_G X D 4 0 0 (tw_M D o0 o1 o2 o3 o4 o5 o6 o7 o8 m_text m_size m_at m_begin m_token m_told m_read m_harbour m_now m_undone m_undos m_one m_two m_three m_chalks m_cb m_co m_trace m_kept) [(0, .ref o0)] 0 [] := by
  unfold fX5_cheap at hs
  refine tg_aload_n C dX5_cheap_0 rfl 0 rfl ?_
  refine tg_iconst (v := 3) C dX5_cheap_1 (by decide) ?_
  obtain ⟨rr1, ee2, hs⟩ := tg_b1_e hs
  refine tg_pVs (As := [.int 3]) (rest := []) C hl0 (kX5_now l D o0 o1 o2 o3 o4 o5 o6 o7 o8 m_text m_size m_at m_begin m_token m_told m_read m_harbour m_now m_undone m_undos m_one m_two m_three m_chalks m_cb m_co m_trace m_kept 3 rr1 ee2) wm_966 meX5_now (by decide) rfl rfl rfl rfl (Nat.le_of_ble_eq_true rfl) dX5_cheap_2 ?_
  refine tg_istore_n (lv' := [(1, .int rr1), (0, .ref o0)]) C dX5_cheap_5 rfl (by decide) rfl ?_
  refine tg_bipush (v := (-9)) C dX5_cheap_6 (by decide) ?_
  refine tg_istore_n (lv' := [(2, .int (-9)), (1, .int rr1), (0, .ref o0)]) C dX5_cheap_8 rfl (by decide) rfl ?_
  refine tg_iconst (v := 1) C dX5_cheap_9 (by decide) ?_
  refine tg_istore_n (lv' := [(3, .int 1), (2, .int (-9)), (1, .int rr1), (0, .ref o0)]) C dX5_cheap_10 rfl (by decide) rfl ?_
  refine tg_lsub [3, 2, 1, 0] rfl ?_
  obtain ⟨vv15, vv16, ee17, hs⟩ := tg_b2_e hs
  refine vX5_cheap_L11 l D o0 o1 o2 o3 o4 o5 o6 o7 o8 m_text m_size m_at m_begin m_token m_told m_read m_harbour m_now m_undone m_undos m_one m_two m_three m_chalks m_cb m_co m_trace m_kept rr1 X hl0 C vv15 vv16 400 (-9) 1 ee17 ?_
  refine tg_iload_n C dX5_cheap_61 rfl 2 rfl ?_
  obtain rfl := Option.some.inj hs
  exact tg_iret hE rfl dX5_cheap_62
set_option maxHeartbeats 2000000 in
set_option maxRecDepth 20000 in
theorem kX5_cheap (l : Launch) (D : tg_D) (o0 o1 o2 o3 o4 o5 o6 o7 o8 : Nat) (m_text : Nat → Int32) (m_size : Int32) (m_at : Int32) (m_begin : Int32) (m_token : Int32) (m_told : Int32) (m_read : Nat → Int32) (m_harbour : Nat → Int32) (m_now : Nat → Int32) (m_undone : Nat → Int32) (m_undos : Int32) (m_one : Int32) (m_two : Int32) (m_three : Int32) (m_chalks : Int32) (m_cb : Nat → Int32) (m_co : Nat → Int32) (m_trace : Int64) (m_kept : Nat → Int32) (r : Int32) (hs : fX5_cheap m_harbour m_now = some r) : Met l yX5_cheap [Cond.code yX5_cheap cX5_cheap 4 (some .int)] (tg_rm 4 85) (tg_Pre D (tw_M D o0 o1 o2 o3 o4 o5 o6 o7 o8 m_text m_size m_at m_begin m_token m_told m_read m_harbour m_now m_undone m_undos m_one m_two m_three m_chalks m_cb m_co m_trace m_kept) [.ref o0]) (vp_Si (fun r' => r' = r)) 0 0 (fun _ => False) := tg_metI (by decide) (Nat.le_of_ble_eq_true rfl) (fun X hl0 C hE => vX5_cheap l D o0 o1 o2 o3 o4 o5 o6 o7 o8 m_text m_size m_at m_begin m_token m_told m_read m_harbour m_now m_undone m_undos m_one m_two m_three m_chalks m_cb m_co m_trace m_kept X hl0 C r hs hE)
def fX5_chalks (m_harbour : Nat → Int32) (m_chalks : Int32) (m_cb : Nat → Int32) (m_co : Nat → Int32) (p1 : Int32) (p2 : Int32) : Option (Int32 × Int32 × (Nat → Int32) × (Nat → Int32)) := tg_b1 (fX5_isBerth m_harbour p1) fun rr1 => if rr1 = 0 then (some ((-1), m_chalks, m_cb, m_co)) else (tg_b1 (fX5_in (Int32.toInt64 p2) 0 216) fun rr4 => if ¬ rr4 = 0 then (if ¬ m_chalks = 6 then (tg_ck m_chalks 6 <| tg_nm (upd m_cb (Int32.toNatClampNeg m_chalks) p1) fun gg8 => tg_ck m_chalks 6 <| tg_nm (upd m_co (Int32.toNatClampNeg m_chalks) p2) fun gg10 => tg_nm (m_chalks + 1) fun vv12 => some (vv12, vv12, gg8, gg10)) else (some ((-3), m_chalks, m_cb, m_co))) else (some ((-1), m_chalks, m_cb, m_co)))
set_option maxHeartbeats 2000000 in
set_option maxRecDepth 20000 in
theorem vX5_chalks (l : Launch) (D : tg_D) (o0 o1 o2 o3 o4 o5 o6 o7 o8 : Nat) (m_text : Nat → Int32) (m_size : Int32) (m_at : Int32) (m_begin : Int32) (m_token : Int32) (m_told : Int32) (m_read : Nat → Int32) (m_harbour : Nat → Int32) (m_now : Nat → Int32) (m_undone : Nat → Int32) (m_undos : Int32) (m_one : Int32) (m_two : Int32) (m_three : Int32) (m_chalks : Int32) (m_cb : Nat → Int32) (m_co : Nat → Int32) (m_trace : Int64) (m_kept : Nat → Int32) (p1 : Int32) (p2 : Int32) (X : tg_X) (hl0 : tg_l X = l) (C : tg_C X D 3 cX5_chalks RX5 2 46 0 0) (V : tg_V X) (r : Int32) (q_m_chalks : Int32) (q_m_cb : Nat → Int32) (q_m_co : Nat → Int32) (hs : fX5_chalks m_harbour m_chalks m_cb m_co p1 p2 = some (r, q_m_chalks, q_m_cb, q_m_co)) (hE : tg_Ei X D 0 0 cX5_chalks .int r (tw_M D o0 o1 o2 o3 o4 o5 o6 o7 o8 m_text m_size m_at m_begin m_token m_told m_read m_harbour m_now m_undone m_undos m_one m_two m_three q_m_chalks q_m_cb q_m_co m_trace m_kept)) : tg_G X D 3 0 0 (tw_M D o0 o1 o2 o3 o4 o5 o6 o7 o8 m_text m_size m_at m_begin m_token m_told m_read m_harbour m_now m_undone m_undos m_one m_two m_three m_chalks m_cb m_co m_trace m_kept) [(0, .ref o0), (1, .int p1), (2, .int p2)] 0 [] := by
  unfold fX5_chalks at hs
  refine tg_aload_n C dX5_chalks_0 rfl 0 rfl ?_
  refine tg_iload_n C dX5_chalks_1 rfl 1 rfl ?_
  obtain ⟨rr1, ee2, hs⟩ := tg_b1_e hs
  refine tg_pVs (As := [.int p1]) (rest := []) C hl0 (kX5_isBerth l D o0 o1 o2 o3 o4 o5 o6 o7 o8 m_text m_size m_at m_begin m_token m_told m_read m_harbour m_now m_undone m_undos m_one m_two m_three m_chalks m_cb m_co m_trace m_kept p1 rr1 ee2) wm_839 meX5_isBerth (by decide) rfl rfl rfl rfl (Nat.le_of_ble_eq_true rfl) dX5_chalks_2 ?_
  refine tg_if_eq (tgt := 20) C dX5_chalks_5 (by decide) (fun cc3 => ?_) (fun cc3 => ?_)
  · have hs := tg_t cc3 hs
    refine tg_iconst (v := (-1)) C dX5_chalks_20 (by decide) ?_
    obtain ⟨rfl, rfl, rfl, rfl⟩ := tg_i4 hs
    exact tg_iret hE rfl dX5_chalks_21
  · have hs := tg_f cc3 hs
    refine tg_iload_n C dX5_chalks_8 rfl 2 rfl ?_
    refine tg_i2l C dX5_chalks_9 ?_
    refine tg_lconst (v := 0) C dX5_chalks_10 (by decide) ?_
    refine tg_ldc2 C wm_976 dX5_chalks_11 ?_
    obtain ⟨rr4, ee5, hs⟩ := tg_b1_e hs
    refine tg_pS (As := [.long (Int32.toInt64 p2), .long 0, .long 216]) (rest := []) C hl0 (kX5_in l D (Int32.toInt64 p2) 0 216 rr4 ee5) wm_768 meX5_in (by decide) rfl rfl (Nat.le_of_ble_eq_true rfl) dX5_chalks_14 ?_
    refine tg_if_ne (tgt := 22) C dX5_chalks_17 (by decide) (fun cc6 => ?_) (fun cc6 => ?_)
    · have hs := tg_t cc6 hs
      refine tg_aload_n C dX5_chalks_22 rfl 0 rfl ?_
      refine tg_get (v := .int m_chalks) C cfX5 0 rfl 14 (by decide) wm_719 rfl dX5_chalks_23 ?_
      refine tg_bipush (v := 6) C dX5_chalks_26 (by decide) ?_
      refine tg_icmp_ne (tgt := 34) C dX5_chalks_28 (by decide) (fun cc7 => ?_) (fun cc7 => ?_)
      · have hs := tg_t cc7 hs
        refine tg_aload_n C dX5_chalks_34 rfl 0 rfl ?_
        refine tg_get (v := .ref o6) C cfX5 0 rfl 15 (by decide) wm_720 rfl dX5_chalks_35 ?_
        refine tg_aload_n C dX5_chalks_38 rfl 0 rfl ?_
        refine tg_get (v := .int m_chalks) C cfX5 0 rfl 14 (by decide) wm_719 rfl dX5_chalks_39 ?_
        refine tg_iload_n C dX5_chalks_42 rfl 1 rfl ?_
        obtain ⟨hh9, hs⟩ := tg_ck_e hs
        obtain ⟨gg8, egg8, hs⟩ := tg_nm_e hs
        refine tg_iast (ws' := (tw_M D o0 o1 o2 o3 o4 o5 o6 o7 o8 m_text m_size m_at m_begin m_token m_told m_read m_harbour m_now m_undone m_undos m_one m_two m_three m_chalks gg8 m_co m_trace m_kept)) C V 6 0 rfl rfl hh9 egg8 rfl dX5_chalks_43 ?_
        refine tg_aload_n C dX5_chalks_44 rfl 0 rfl ?_
        refine tg_get (v := .ref o7) C cfX5 0 rfl 16 (by decide) wm_721 rfl dX5_chalks_45 ?_
        refine tg_aload_n C dX5_chalks_48 rfl 0 rfl ?_
        refine tg_get (v := .int m_chalks) C cfX5 0 rfl 14 (by decide) wm_719 rfl dX5_chalks_49 ?_
        refine tg_iload_n C dX5_chalks_52 rfl 2 rfl ?_
        obtain ⟨hh11, hs⟩ := tg_ck_e hs
        obtain ⟨gg10, egg10, hs⟩ := tg_nm_e hs
        refine tg_iast (ws' := (tw_M D o0 o1 o2 o3 o4 o5 o6 o7 o8 m_text m_size m_at m_begin m_token m_told m_read m_harbour m_now m_undone m_undos m_one m_two m_three m_chalks gg8 gg10 m_trace m_kept)) C V 7 0 rfl rfl hh11 egg10 rfl dX5_chalks_53 ?_
        refine tg_aload_n C dX5_chalks_54 rfl 0 rfl ?_
        refine tg_dup C dX5_chalks_55 rfl ?_
        refine tg_get (v := .int m_chalks) C cfX5 0 rfl 14 (by decide) wm_719 rfl dX5_chalks_56 ?_
        refine tg_iconst (v := 1) C dX5_chalks_59 (by decide) ?_
        refine tg_iadd C dX5_chalks_60 ?_
        obtain ⟨vv12, evv12, hs⟩ := tg_nm_e hs
        refine tg_topi evv12 ?_
        refine tg_put (ws' := (tw_M D o0 o1 o2 o3 o4 o5 o6 o7 o8 m_text m_size m_at m_begin m_token m_told m_read m_harbour m_now m_undone m_undos m_one m_two m_three vv12 gg8 gg10 m_trace m_kept)) C V cfX5 0 rfl 14 (by decide) wm_719 rfl rfl rfl (Nat.le_of_ble_eq_true rfl) rfl dX5_chalks_61 ?_
        refine tg_aload_n C dX5_chalks_64 rfl 0 rfl ?_
        refine tg_get (v := .int vv12) C cfX5 0 rfl 14 (by decide) wm_719 rfl dX5_chalks_65 ?_
        obtain ⟨rfl, rfl, rfl, rfl⟩ := tg_i4 hs
        exact tg_iret hE rfl dX5_chalks_68
      · have hs := tg_nf cc7 hs
        refine tg_bipush (v := (-3)) C dX5_chalks_31 (by decide) ?_
        obtain ⟨rfl, rfl, rfl, rfl⟩ := tg_i4 hs
        exact tg_iret hE rfl dX5_chalks_33
    · have hs := tg_nf cc6 hs
      refine tg_iconst (v := (-1)) C dX5_chalks_20 (by decide) ?_
      obtain ⟨rfl, rfl, rfl, rfl⟩ := tg_i4 hs
      exact tg_iret hE rfl dX5_chalks_21
set_option maxHeartbeats 2000000 in
set_option maxRecDepth 20000 in
theorem kX5_chalks (l : Launch) (D : tg_D) (o0 o1 o2 o3 o4 o5 o6 o7 o8 : Nat) (m_text : Nat → Int32) (m_size : Int32) (m_at : Int32) (m_begin : Int32) (m_token : Int32) (m_told : Int32) (m_read : Nat → Int32) (m_harbour : Nat → Int32) (m_now : Nat → Int32) (m_undone : Nat → Int32) (m_undos : Int32) (m_one : Int32) (m_two : Int32) (m_three : Int32) (m_chalks : Int32) (m_cb : Nat → Int32) (m_co : Nat → Int32) (m_trace : Int64) (m_kept : Nat → Int32) (p1 : Int32) (p2 : Int32) (r : Int32) (q_m_chalks : Int32) (q_m_cb : Nat → Int32) (q_m_co : Nat → Int32) (hs : fX5_chalks m_harbour m_chalks m_cb m_co p1 p2 = some (r, q_m_chalks, q_m_cb, q_m_co)) : Met l yX5_chalks [Cond.code yX5_chalks cX5_chalks 3 (some .int)] (tg_rm 2 46) (tg_Pre D (tw_M D o0 o1 o2 o3 o4 o5 o6 o7 o8 m_text m_size m_at m_begin m_token m_told m_read m_harbour m_now m_undone m_undos m_one m_two m_three m_chalks m_cb m_co m_trace m_kept) [.ref o0, .int p1, .int p2]) (tg_Qe (some (.int r)) D (tw_M D o0 o1 o2 o3 o4 o5 o6 o7 o8 m_text m_size m_at m_begin m_token m_told m_read m_harbour m_now m_undone m_undos m_one m_two m_three q_m_chalks q_m_cb q_m_co m_trace m_kept) (tg_Ad (tw_M D o0 o1 o2 o3 o4 o5 o6 o7 o8 m_text m_size m_at m_begin m_token m_told m_read m_harbour m_now m_undone m_undos m_one m_two m_three m_chalks m_cb m_co m_trace m_kept))) 0 0 (tg_Ad (tw_M D o0 o1 o2 o3 o4 o5 o6 o7 o8 m_text m_size m_at m_begin m_token m_told m_read m_harbour m_now m_undone m_undos m_one m_two m_three m_chalks m_cb m_co m_trace m_kept)) := tg_metEi (by decide) (Nat.le_of_ble_eq_true rfl) (fun X hl0 C V hE => vX5_chalks l D o0 o1 o2 o3 o4 o5 o6 o7 o8 m_text m_size m_at m_begin m_token m_told m_read m_harbour m_now m_undone m_undos m_one m_two m_three m_chalks m_cb m_co m_trace m_kept p1 p2 X hl0 C V r q_m_chalks q_m_cb q_m_co hs hE)
def fX5_wipes (m_chalks : Int32) : Option (Int32 × Int32) := some (m_chalks, 0)
set_option maxHeartbeats 2000000 in
set_option maxRecDepth 20000 in
theorem vX5_wipes (l : Launch) (D : tg_D) (o0 o1 o2 o3 o4 o5 o6 o7 o8 : Nat) (m_text : Nat → Int32) (m_size : Int32) (m_at : Int32) (m_begin : Int32) (m_token : Int32) (m_told : Int32) (m_read : Nat → Int32) (m_harbour : Nat → Int32) (m_now : Nat → Int32) (m_undone : Nat → Int32) (m_undos : Int32) (m_one : Int32) (m_two : Int32) (m_three : Int32) (m_chalks : Int32) (m_cb : Nat → Int32) (m_co : Nat → Int32) (m_trace : Int64) (m_kept : Nat → Int32) (X : tg_X) (hl0 : tg_l X = l) (C : tg_C X D 2 cX5_wipes RX5 0 0 0 0) (V : tg_V X) (r : Int32) (q_m_chalks : Int32) (hs : fX5_wipes m_chalks = some (r, q_m_chalks)) (hE : tg_Ei X D 0 0 cX5_wipes .int r (tw_M D o0 o1 o2 o3 o4 o5 o6 o7 o8 m_text m_size m_at m_begin m_token m_told m_read m_harbour m_now m_undone m_undos m_one m_two m_three q_m_chalks m_cb m_co m_trace m_kept)) : tg_G X D 2 0 0 (tw_M D o0 o1 o2 o3 o4 o5 o6 o7 o8 m_text m_size m_at m_begin m_token m_told m_read m_harbour m_now m_undone m_undos m_one m_two m_three m_chalks m_cb m_co m_trace m_kept) [(0, .ref o0)] 0 [] := by
  unfold fX5_wipes at hs
  refine tg_aload_n C dX5_wipes_0 rfl 0 rfl ?_
  refine tg_get (v := .int m_chalks) C cfX5 0 rfl 14 (by decide) wm_719 rfl dX5_wipes_1 ?_
  refine tg_istore_n (lv' := [(1, .int m_chalks), (0, .ref o0)]) C dX5_wipes_4 rfl (by decide) rfl ?_
  refine tg_aload_n C dX5_wipes_5 rfl 1 rfl ?_
  refine tg_iconst (v := 0) C dX5_wipes_6 (by decide) ?_
  refine tg_put (ws' := (tw_M D o0 o1 o2 o3 o4 o5 o6 o7 o8 m_text m_size m_at m_begin m_token m_told m_read m_harbour m_now m_undone m_undos m_one m_two m_three 0 m_cb m_co m_trace m_kept)) C V cfX5 0 rfl 14 (by decide) wm_719 rfl rfl rfl (Nat.le_of_ble_eq_true rfl) rfl dX5_wipes_7 ?_
  refine tg_iload_n C dX5_wipes_10 rfl 0 rfl ?_
  obtain ⟨rfl, rfl⟩ := tg_i2 hs
  exact tg_iret hE rfl dX5_wipes_11
set_option maxHeartbeats 2000000 in
set_option maxRecDepth 20000 in
theorem kX5_wipes (l : Launch) (D : tg_D) (o0 o1 o2 o3 o4 o5 o6 o7 o8 : Nat) (m_text : Nat → Int32) (m_size : Int32) (m_at : Int32) (m_begin : Int32) (m_token : Int32) (m_told : Int32) (m_read : Nat → Int32) (m_harbour : Nat → Int32) (m_now : Nat → Int32) (m_undone : Nat → Int32) (m_undos : Int32) (m_one : Int32) (m_two : Int32) (m_three : Int32) (m_chalks : Int32) (m_cb : Nat → Int32) (m_co : Nat → Int32) (m_trace : Int64) (m_kept : Nat → Int32) (r : Int32) (q_m_chalks : Int32) (hs : fX5_wipes m_chalks = some (r, q_m_chalks)) : Met l yX5_wipes [Cond.code yX5_wipes cX5_wipes 2 (some .int)] (tg_rm 0 0) (tg_Pre D (tw_M D o0 o1 o2 o3 o4 o5 o6 o7 o8 m_text m_size m_at m_begin m_token m_told m_read m_harbour m_now m_undone m_undos m_one m_two m_three m_chalks m_cb m_co m_trace m_kept) [.ref o0]) (tg_Qe (some (.int r)) D (tw_M D o0 o1 o2 o3 o4 o5 o6 o7 o8 m_text m_size m_at m_begin m_token m_told m_read m_harbour m_now m_undone m_undos m_one m_two m_three q_m_chalks m_cb m_co m_trace m_kept) (tg_Ad (tw_M D o0 o1 o2 o3 o4 o5 o6 o7 o8 m_text m_size m_at m_begin m_token m_told m_read m_harbour m_now m_undone m_undos m_one m_two m_three m_chalks m_cb m_co m_trace m_kept))) 0 0 (tg_Ad (tw_M D o0 o1 o2 o3 o4 o5 o6 o7 o8 m_text m_size m_at m_begin m_token m_told m_read m_harbour m_now m_undone m_undos m_one m_two m_three m_chalks m_cb m_co m_trace m_kept)) := tg_metEi (by decide) (Nat.le_of_ble_eq_true rfl) (fun X hl0 C V hE => vX5_wipes l D o0 o1 o2 o3 o4 o5 o6 o7 o8 m_text m_size m_at m_begin m_token m_told m_read m_harbour m_now m_undone m_undos m_one m_two m_three m_chalks m_cb m_co m_trace m_kept X hl0 C V r q_m_chalks hs hE)
def fX5_offOf (m_harbour : Nat → Int32) (m_now : Nat → Int32) (m_one : Int32) (m_two : Int32) (m_three : Int32) (m_cb : Nat → Int32) (m_co : Nat → Int32) (p1 : Int32) : Option (Int32 × Int32 × Int32 × Int32) := tg_ck p1 6 <| tg_b1 (fX5_throwsOf m_harbour) fun rr2 => tg_ck p1 6 <| tg_b4 (fX5_chances m_harbour m_now m_one m_two m_three (m_cb (Int32.toNatClampNeg p1))) fun rr5 vv6 vv7 vv8 => some (((m_co (Int32.toNatClampNeg p1)) * rr2) - (216 * rr5), vv6, vv7, vv8)
set_option maxHeartbeats 2000000 in
set_option maxRecDepth 20000 in
theorem vX5_offOf (l : Launch) (D : tg_D) (o0 o1 o2 o3 o4 o5 o6 o7 o8 : Nat) (m_text : Nat → Int32) (m_size : Int32) (m_at : Int32) (m_begin : Int32) (m_token : Int32) (m_told : Int32) (m_read : Nat → Int32) (m_harbour : Nat → Int32) (m_now : Nat → Int32) (m_undone : Nat → Int32) (m_undos : Int32) (m_one : Int32) (m_two : Int32) (m_three : Int32) (m_chalks : Int32) (m_cb : Nat → Int32) (m_co : Nat → Int32) (m_trace : Int64) (m_kept : Nat → Int32) (p1 : Int32) (X : tg_X) (hl0 : tg_l X = l) (C : tg_C X D 2 cX5_offOf RX5 4 91 0 0) (V : tg_V X) (r : Int32) (q_m_one : Int32) (q_m_two : Int32) (q_m_three : Int32) (hs : fX5_offOf m_harbour m_now m_one m_two m_three m_cb m_co p1 = some (r, q_m_one, q_m_two, q_m_three)) (hE : tg_Ei X D 0 0 cX5_offOf .int r (tw_M D o0 o1 o2 o3 o4 o5 o6 o7 o8 m_text m_size m_at m_begin m_token m_told m_read m_harbour m_now m_undone m_undos q_m_one q_m_two q_m_three m_chalks m_cb m_co m_trace m_kept)) : tg_G X D 2 0 0 (tw_M D o0 o1 o2 o3 o4 o5 o6 o7 o8 m_text m_size m_at m_begin m_token m_told m_read m_harbour m_now m_undone m_undos m_one m_two m_three m_chalks m_cb m_co m_trace m_kept) [(0, .ref o0), (1, .int p1)] 0 [] := by
  unfold fX5_offOf at hs
  refine tg_aload_n C dX5_offOf_0 rfl 0 rfl ?_
  refine tg_get (v := .ref o7) C cfX5 0 rfl 16 (by decide) wm_721 rfl dX5_offOf_1 ?_
  refine tg_iload_n C dX5_offOf_4 rfl 1 rfl ?_
  obtain ⟨hh1, hs⟩ := tg_ck_e hs
  refine tg_iald C 7 0 rfl rfl hh1 dX5_offOf_5 ?_
  refine tg_aload_n C dX5_offOf_6 rfl 0 rfl ?_
  obtain ⟨rr2, ee3, hs⟩ := tg_b1_e hs
  refine tg_pVs (As := []) (rest := [.int (m_co (Int32.toNatClampNeg p1))]) C hl0 (kX5_throwsOf l D o0 o1 o2 o3 o4 o5 o6 o7 o8 m_text m_size m_at m_begin m_token m_told m_read m_harbour m_now m_undone m_undos m_one m_two m_three m_chalks m_cb m_co m_trace m_kept rr2 ee3) wm_863 meX5_throwsOf (by decide) rfl rfl rfl rfl (Nat.le_of_ble_eq_true rfl) dX5_offOf_7 ?_
  refine tg_imul C dX5_offOf_10 ?_
  refine tg_sipush (v := 216) C dX5_offOf_11 (by decide) ?_
  refine tg_aload_n C dX5_offOf_14 rfl 0 rfl ?_
  refine tg_aload_n C dX5_offOf_15 rfl 0 rfl ?_
  refine tg_get (v := .ref o6) C cfX5 0 rfl 15 (by decide) wm_720 rfl dX5_offOf_16 ?_
  refine tg_iload_n C dX5_offOf_19 rfl 1 rfl ?_
  obtain ⟨hh4, hs⟩ := tg_ck_e hs
  refine tg_iald C 6 0 rfl rfl hh4 dX5_offOf_20 ?_
  obtain ⟨rr5, vv6, vv7, vv8, ee9, hs⟩ := tg_b4_e hs
  refine tg_eVs (ws' := (tw_M D o0 o1 o2 o3 o4 o5 o6 o7 o8 m_text m_size m_at m_begin m_token m_told m_read m_harbour m_now m_undone m_undos vv6 vv7 vv8 m_chalks m_cb m_co m_trace m_kept)) (As := [.int (m_cb (Int32.toNatClampNeg p1))]) (rest := [.int 216, .int ((m_co (Int32.toNatClampNeg p1)) * rr2)]) C V hl0 (kX5_chances l D o0 o1 o2 o3 o4 o5 o6 o7 o8 m_text m_size m_at m_begin m_token m_told m_read m_harbour m_now m_undone m_undos m_one m_two m_three m_chalks m_cb m_co m_trace m_kept (m_cb (Int32.toNatClampNeg p1)) rr5 vv6 vv7 vv8 ee9) wm_943 meX5_chances (by decide) rfl rfl rfl rfl (Nat.le_of_ble_eq_true rfl) rfl dX5_offOf_21 ?_
  refine tg_imul C dX5_offOf_24 ?_
  refine tg_isub C dX5_offOf_25 ?_
  obtain ⟨rfl, rfl, rfl, rfl⟩ := tg_i4 hs
  exact tg_iret hE rfl dX5_offOf_26
set_option maxHeartbeats 2000000 in
set_option maxRecDepth 20000 in
theorem kX5_offOf (l : Launch) (D : tg_D) (o0 o1 o2 o3 o4 o5 o6 o7 o8 : Nat) (m_text : Nat → Int32) (m_size : Int32) (m_at : Int32) (m_begin : Int32) (m_token : Int32) (m_told : Int32) (m_read : Nat → Int32) (m_harbour : Nat → Int32) (m_now : Nat → Int32) (m_undone : Nat → Int32) (m_undos : Int32) (m_one : Int32) (m_two : Int32) (m_three : Int32) (m_chalks : Int32) (m_cb : Nat → Int32) (m_co : Nat → Int32) (m_trace : Int64) (m_kept : Nat → Int32) (p1 : Int32) (r : Int32) (q_m_one : Int32) (q_m_two : Int32) (q_m_three : Int32) (hs : fX5_offOf m_harbour m_now m_one m_two m_three m_cb m_co p1 = some (r, q_m_one, q_m_two, q_m_three)) : Met l yX5_offOf [Cond.code yX5_offOf cX5_offOf 2 (some .int)] (tg_rm 4 91) (tg_Pre D (tw_M D o0 o1 o2 o3 o4 o5 o6 o7 o8 m_text m_size m_at m_begin m_token m_told m_read m_harbour m_now m_undone m_undos m_one m_two m_three m_chalks m_cb m_co m_trace m_kept) [.ref o0, .int p1]) (tg_Qe (some (.int r)) D (tw_M D o0 o1 o2 o3 o4 o5 o6 o7 o8 m_text m_size m_at m_begin m_token m_told m_read m_harbour m_now m_undone m_undos q_m_one q_m_two q_m_three m_chalks m_cb m_co m_trace m_kept) (tg_Ad (tw_M D o0 o1 o2 o3 o4 o5 o6 o7 o8 m_text m_size m_at m_begin m_token m_told m_read m_harbour m_now m_undone m_undos m_one m_two m_three m_chalks m_cb m_co m_trace m_kept))) 0 0 (tg_Ad (tw_M D o0 o1 o2 o3 o4 o5 o6 o7 o8 m_text m_size m_at m_begin m_token m_told m_read m_harbour m_now m_undone m_undos m_one m_two m_three m_chalks m_cb m_co m_trace m_kept)) := tg_metEi (by decide) (Nat.le_of_ble_eq_true rfl) (fun X hl0 C V hE => vX5_offOf l D o0 o1 o2 o3 o4 o5 o6 o7 o8 m_text m_size m_at m_begin m_token m_told m_read m_harbour m_now m_undone m_undos m_one m_two m_three m_chalks m_cb m_co m_trace m_kept p1 X hl0 C V r q_m_one q_m_two q_m_three hs hE)
def fX5_wrong_L4 (m_harbour : Nat → Int32) (m_now : Nat → Int32) (m_chalks : Int32) (m_cb : Nat → Int32) (m_co : Nat → Int32) : Nat → Int32 → Int32 → Int32 → Int32 → Int32 → Option (Int32 × Int32 × Int32 × Int32 × Int32)
  | 0, _, _, _, _, _ => none
  | fuel + 1, m_one, m_two, m_three, n1, n2 => if m_chalks ≤ n2 then (some (m_one, m_two, m_three, n1, n2)) else (tg_b4 (fX5_offOf m_harbour m_now m_one m_two m_three m_cb m_co n2) fun rr2 vv3 vv4 vv5 => tg_b1 (if rr2 = 0 then (some (0 : Int32)) else (some (1 <<< (n2 &&& 31)))) fun (vv8 : Int32) => tg_nm (n1 ||| vv8) fun vv10 => tg_nm (n2 + 1) fun vv11 => fX5_wrong_L4 m_harbour m_now m_chalks m_cb m_co fuel vv3 vv4 vv5 vv10 vv11)
def fX5_wrong (m_harbour : Nat → Int32) (m_now : Nat → Int32) (m_one : Int32) (m_two : Int32) (m_three : Int32) (m_chalks : Int32) (m_cb : Nat → Int32) (m_co : Nat → Int32) : Option (Int32 × Int32 × Int32 × Int32) := tg_b5 (fX5_wrong_L4 m_harbour m_now m_chalks m_cb m_co 400 m_one m_two m_three 0 0) fun vv13 vv14 vv15 vv16 vv17 => some (vv16, vv13, vv14, vv15)
set_option maxHeartbeats 2000000 in
set_option maxRecDepth 20000 in
theorem vX5_wrong_L4 (l : Launch) (D : tg_D) (o0 o1 o2 o3 o4 o5 o6 o7 o8 : Nat) (m_text : Nat → Int32) (m_size : Int32) (m_at : Int32) (m_begin : Int32) (m_token : Int32) (m_told : Int32) (m_read : Nat → Int32) (m_harbour : Nat → Int32) (m_now : Nat → Int32) (m_undone : Nat → Int32) (m_undos : Int32) (m_chalks : Int32) (m_cb : Nat → Int32) (m_co : Nat → Int32) (m_trace : Int64) (m_kept : Nat → Int32) (X : tg_X) (hl0 : tg_l X = l) (C : tg_C X D 3 cX5_wrong RX5 5 112 0 0) (V : tg_V X) (o_m_one : Int32) (o_m_two : Int32) (o_m_three : Int32) (o_n1 : Int32) (o_n2 : Int32) : ∀ (fuel : Nat) (m_one : Int32) (m_two : Int32) (m_three : Int32) (n1 : Int32) (n2 : Int32), fX5_wrong_L4 m_harbour m_now m_chalks m_cb m_co fuel m_one m_two m_three n1 n2 = some (o_m_one, o_m_two, o_m_three, o_n1, o_n2) → tg_G X D 3 0 0 (tw_M D o0 o1 o2 o3 o4 o5 o6 o7 o8 m_text m_size m_at m_begin m_token m_told m_read m_harbour m_now m_undone m_undos o_m_one o_m_two o_m_three m_chalks m_cb m_co m_trace m_kept) [(0, .ref o0), (1, .int o_n1), (2, .int o_n2)] 36 [] → tg_G X D 3 0 0 (tw_M D o0 o1 o2 o3 o4 o5 o6 o7 o8 m_text m_size m_at m_begin m_token m_told m_read m_harbour m_now m_undone m_undos m_one m_two m_three m_chalks m_cb m_co m_trace m_kept) [(0, .ref o0), (1, .int n1), (2, .int n2)] 4 [] := by
  intro fuel
  induction fuel with
  | zero =>
    intro m_one m_two m_three n1 n2 hs _
    rw [fX5_wrong_L4] at hs
    cases hs
  | succ fuel ih =>
    intro m_one m_two m_three n1 n2 hs J
    rw [fX5_wrong_L4] at hs
    refine tg_iload_n C dX5_wrong_4 rfl 2 rfl ?_
    refine tg_aload_n C dX5_wrong_5 rfl 0 rfl ?_
    refine tg_get (v := .int m_chalks) C cfX5 0 rfl 14 (by decide) wm_719 rfl dX5_wrong_6 ?_
    refine tg_icmp_ge (tgt := 36) C dX5_wrong_9 (by decide) (fun cc1 => ?_) (fun cc1 => ?_)
    · have hs := tg_t cc1 hs
      obtain ⟨rfl, rfl, rfl, rfl, rfl⟩ := tg_i5 hs
      exact J
    · have hs := tg_f cc1 hs
      refine tg_iload_n C dX5_wrong_12 rfl 1 rfl ?_
      refine tg_aload_n C dX5_wrong_13 rfl 0 rfl ?_
      refine tg_iload_n C dX5_wrong_14 rfl 2 rfl ?_
      obtain ⟨rr2, vv3, vv4, vv5, ee6, hs⟩ := tg_b4_e hs
      refine tg_eVs (ws' := (tw_M D o0 o1 o2 o3 o4 o5 o6 o7 o8 m_text m_size m_at m_begin m_token m_told m_read m_harbour m_now m_undone m_undos vv3 vv4 vv5 m_chalks m_cb m_co m_trace m_kept)) (As := [.int n2]) (rest := [.int n1]) C V hl0 (kX5_offOf l D o0 o1 o2 o3 o4 o5 o6 o7 o8 m_text m_size m_at m_begin m_token m_told m_read m_harbour m_now m_undone m_undos m_one m_two m_three m_chalks m_cb m_co m_trace m_kept n2 rr2 vv3 vv4 vv5 ee6) wm_985 meX5_offOf (by decide) rfl rfl rfl rfl (Nat.le_of_ble_eq_true rfl) rfl dX5_wrong_15 ?_
      obtain ⟨vv8, ee12, hs⟩ := tg_b1_e hs
      have JJ9 : tg_G X D 3 0 0 (tw_M D o0 o1 o2 o3 o4 o5 o6 o7 o8 m_text m_size m_at m_begin m_token m_told m_read m_harbour m_now m_undone m_undos vv3 vv4 vv5 m_chalks m_cb m_co m_trace m_kept) [(0, .ref o0), (1, .int n1), (2, .int n2)] 28 [.int vv8, .int n1] := by
        refine tg_ior C dX5_wrong_28 ?_
        obtain ⟨vv10, evv10, hs⟩ := tg_nm_e hs
        refine tg_topi evv10 ?_
        refine tg_istore_n (lv' := [(1, .int vv10), (0, .ref o0), (2, .int n2)]) C dX5_wrong_29 rfl (by decide) rfl ?_
        obtain ⟨vv11, evv11, hs⟩ := tg_nm_e hs
        refine tg_iinc (v := vv11) (lv' := [(2, .int vv11), (1, .int vv10), (0, .ref o0)]) C dX5_wrong_30 2 rfl (by rw [evv11]; rfl) (by decide) rfl ?_
        refine tg_goto (tgt := 4) C dX5_wrong_33 (by decide) ?_
        refine tg_lsub [2, 1, 0] rfl ?_
        exact ih vv3 vv4 vv5 vv10 vv11 hs J
      have hs := ee12
      clear ee12
      refine tg_if_eq (tgt := 27) C dX5_wrong_18 (by decide) (fun cc7 => ?_) (fun cc7 => ?_)
      · have hs := tg_t cc7 hs
        refine tg_iconst (v := 0) C dX5_wrong_27 (by decide) ?_
        obtain rfl := Option.some.inj hs
        exact JJ9
      · have hs := tg_f cc7 hs
        refine tg_iconst (v := 1) C dX5_wrong_21 (by decide) ?_
        refine tg_iload_n C dX5_wrong_22 rfl 2 rfl ?_
        refine tg_ishl C dX5_wrong_23 ?_
        refine tg_goto (tgt := 28) C dX5_wrong_24 (by decide) ?_
        obtain rfl := Option.some.inj hs
        exact JJ9
set_option maxHeartbeats 2000000 in
set_option maxRecDepth 20000 in
theorem vX5_wrong (l : Launch) (D : tg_D) (o0 o1 o2 o3 o4 o5 o6 o7 o8 : Nat) (m_text : Nat → Int32) (m_size : Int32) (m_at : Int32) (m_begin : Int32) (m_token : Int32) (m_told : Int32) (m_read : Nat → Int32) (m_harbour : Nat → Int32) (m_now : Nat → Int32) (m_undone : Nat → Int32) (m_undos : Int32) (m_one : Int32) (m_two : Int32) (m_three : Int32) (m_chalks : Int32) (m_cb : Nat → Int32) (m_co : Nat → Int32) (m_trace : Int64) (m_kept : Nat → Int32) (X : tg_X) (hl0 : tg_l X = l) (C : tg_C X D 3 cX5_wrong RX5 5 112 0 0) (V : tg_V X) (r : Int32) (q_m_one : Int32) (q_m_two : Int32) (q_m_three : Int32) (hs : fX5_wrong m_harbour m_now m_one m_two m_three m_chalks m_cb m_co = some (r, q_m_one, q_m_two, q_m_three)) (hE : tg_Ei X D 0 0 cX5_wrong .int r (tw_M D o0 o1 o2 o3 o4 o5 o6 o7 o8 m_text m_size m_at m_begin m_token m_told m_read m_harbour m_now m_undone m_undos q_m_one q_m_two q_m_three m_chalks m_cb m_co m_trace m_kept)) : tg_G X D 3 0 0 (tw_M D o0 o1 o2 o3 o4 o5 o6 o7 o8 m_text m_size m_at m_begin m_token m_told m_read m_harbour m_now m_undone m_undos m_one m_two m_three m_chalks m_cb m_co m_trace m_kept) [(0, .ref o0)] 0 [] := by
  unfold fX5_wrong at hs
  refine tg_iconst (v := 0) C dX5_wrong_0 (by decide) ?_
  refine tg_istore_n (lv' := [(1, .int 0), (0, .ref o0)]) C dX5_wrong_1 rfl (by decide) rfl ?_
  refine tg_iconst (v := 0) C dX5_wrong_2 (by decide) ?_
  refine tg_istore_n (lv' := [(2, .int 0), (1, .int 0), (0, .ref o0)]) C dX5_wrong_3 rfl (by decide) rfl ?_
  refine tg_lsub [2, 1, 0] rfl ?_
  obtain ⟨vv13, vv14, vv15, vv16, vv17, ee18, hs⟩ := tg_b5_e hs
  refine vX5_wrong_L4 l D o0 o1 o2 o3 o4 o5 o6 o7 o8 m_text m_size m_at m_begin m_token m_told m_read m_harbour m_now m_undone m_undos m_chalks m_cb m_co m_trace m_kept X hl0 C V vv13 vv14 vv15 vv16 vv17 400 m_one m_two m_three 0 0 ee18 ?_
  refine tg_iload_n C dX5_wrong_36 rfl 1 rfl ?_
  obtain ⟨rfl, rfl, rfl, rfl⟩ := tg_i4 hs
  exact tg_iret hE rfl dX5_wrong_37
set_option maxHeartbeats 2000000 in
set_option maxRecDepth 20000 in
theorem kX5_wrong (l : Launch) (D : tg_D) (o0 o1 o2 o3 o4 o5 o6 o7 o8 : Nat) (m_text : Nat → Int32) (m_size : Int32) (m_at : Int32) (m_begin : Int32) (m_token : Int32) (m_told : Int32) (m_read : Nat → Int32) (m_harbour : Nat → Int32) (m_now : Nat → Int32) (m_undone : Nat → Int32) (m_undos : Int32) (m_one : Int32) (m_two : Int32) (m_three : Int32) (m_chalks : Int32) (m_cb : Nat → Int32) (m_co : Nat → Int32) (m_trace : Int64) (m_kept : Nat → Int32) (r : Int32) (q_m_one : Int32) (q_m_two : Int32) (q_m_three : Int32) (hs : fX5_wrong m_harbour m_now m_one m_two m_three m_chalks m_cb m_co = some (r, q_m_one, q_m_two, q_m_three)) : Met l yX5_wrong [Cond.code yX5_wrong cX5_wrong 3 (some .int)] (tg_rm 5 112) (tg_Pre D (tw_M D o0 o1 o2 o3 o4 o5 o6 o7 o8 m_text m_size m_at m_begin m_token m_told m_read m_harbour m_now m_undone m_undos m_one m_two m_three m_chalks m_cb m_co m_trace m_kept) [.ref o0]) (tg_Qe (some (.int r)) D (tw_M D o0 o1 o2 o3 o4 o5 o6 o7 o8 m_text m_size m_at m_begin m_token m_told m_read m_harbour m_now m_undone m_undos q_m_one q_m_two q_m_three m_chalks m_cb m_co m_trace m_kept) (tg_Ad (tw_M D o0 o1 o2 o3 o4 o5 o6 o7 o8 m_text m_size m_at m_begin m_token m_told m_read m_harbour m_now m_undone m_undos m_one m_two m_three m_chalks m_cb m_co m_trace m_kept))) 0 0 (tg_Ad (tw_M D o0 o1 o2 o3 o4 o5 o6 o7 o8 m_text m_size m_at m_begin m_token m_told m_read m_harbour m_now m_undone m_undos m_one m_two m_three m_chalks m_cb m_co m_trace m_kept)) := tg_metEi (by decide) (Nat.le_of_ble_eq_true rfl) (fun X hl0 C V hE => vX5_wrong l D o0 o1 o2 o3 o4 o5 o6 o7 o8 m_text m_size m_at m_begin m_token m_told m_read m_harbour m_now m_undone m_undos m_one m_two m_three m_chalks m_cb m_co m_trace m_kept X hl0 C V r q_m_one q_m_two q_m_three hs hE)
def fX5_off (m_harbour : Nat → Int32) (m_now : Nat → Int32) (m_one : Int32) (m_two : Int32) (m_three : Int32) (m_chalks : Int32) (m_cb : Nat → Int32) (m_co : Nat → Int32) (p1 : Int32) : Option (Int32 × Int32 × Int32 × Int32) := tg_b1 (fX5_in (Int32.toInt64 p1) 0 (Int32.toInt64 (m_chalks - 1))) fun rr1 => if rr1 = 0 then (some ((-1000000), m_one, m_two, m_three)) else (tg_b4 (fX5_offOf m_harbour m_now m_one m_two m_three m_cb m_co p1) fun rr4 vv5 vv6 vv7 => some (rr4, vv5, vv6, vv7))
set_option maxHeartbeats 2000000 in
set_option maxRecDepth 20000 in
theorem vX5_off (l : Launch) (D : tg_D) (o0 o1 o2 o3 o4 o5 o6 o7 o8 : Nat) (m_text : Nat → Int32) (m_size : Int32) (m_at : Int32) (m_begin : Int32) (m_token : Int32) (m_told : Int32) (m_read : Nat → Int32) (m_harbour : Nat → Int32) (m_now : Nat → Int32) (m_undone : Nat → Int32) (m_undos : Int32) (m_one : Int32) (m_two : Int32) (m_three : Int32) (m_chalks : Int32) (m_cb : Nat → Int32) (m_co : Nat → Int32) (m_trace : Int64) (m_kept : Nat → Int32) (p1 : Int32) (X : tg_X) (hl0 : tg_l X = l) (C : tg_C X D 2 cX5_off RX5 5 112 0 0) (V : tg_V X) (r : Int32) (q_m_one : Int32) (q_m_two : Int32) (q_m_three : Int32) (hs : fX5_off m_harbour m_now m_one m_two m_three m_chalks m_cb m_co p1 = some (r, q_m_one, q_m_two, q_m_three)) (hE : tg_Ei X D 0 0 cX5_off .int r (tw_M D o0 o1 o2 o3 o4 o5 o6 o7 o8 m_text m_size m_at m_begin m_token m_told m_read m_harbour m_now m_undone m_undos q_m_one q_m_two q_m_three m_chalks m_cb m_co m_trace m_kept)) : tg_G X D 2 0 0 (tw_M D o0 o1 o2 o3 o4 o5 o6 o7 o8 m_text m_size m_at m_begin m_token m_told m_read m_harbour m_now m_undone m_undos m_one m_two m_three m_chalks m_cb m_co m_trace m_kept) [(0, .ref o0), (1, .int p1)] 0 [] := by
  unfold fX5_off at hs
  refine tg_iload_n C dX5_off_0 rfl 1 rfl ?_
  refine tg_i2l C dX5_off_1 ?_
  refine tg_lconst (v := 0) C dX5_off_2 (by decide) ?_
  refine tg_aload_n C dX5_off_3 rfl 0 rfl ?_
  refine tg_get (v := .int m_chalks) C cfX5 0 rfl 14 (by decide) wm_719 rfl dX5_off_4 ?_
  refine tg_iconst (v := 1) C dX5_off_7 (by decide) ?_
  refine tg_isub C dX5_off_8 ?_
  refine tg_i2l C dX5_off_9 ?_
  obtain ⟨rr1, ee2, hs⟩ := tg_b1_e hs
  refine tg_pS (As := [.long (Int32.toInt64 p1), .long 0, .long (Int32.toInt64 (m_chalks - 1))]) (rest := []) C hl0 (kX5_in l D (Int32.toInt64 p1) 0 (Int32.toInt64 (m_chalks - 1)) rr1 ee2) wm_768 meX5_in (by decide) rfl rfl (Nat.le_of_ble_eq_true rfl) dX5_off_10 ?_
  refine tg_if_eq (tgt := 24) C dX5_off_13 (by decide) (fun cc3 => ?_) (fun cc3 => ?_)
  · have hs := tg_t cc3 hs
    refine tg_ldc C wm_938 dX5_off_24 ?_
    obtain ⟨rfl, rfl, rfl, rfl⟩ := tg_i4 hs
    exact tg_iret hE rfl dX5_off_26
  · have hs := tg_f cc3 hs
    refine tg_aload_n C dX5_off_16 rfl 0 rfl ?_
    refine tg_iload_n C dX5_off_17 rfl 1 rfl ?_
    obtain ⟨rr4, vv5, vv6, vv7, ee8, hs⟩ := tg_b4_e hs
    refine tg_eVs (ws' := (tw_M D o0 o1 o2 o3 o4 o5 o6 o7 o8 m_text m_size m_at m_begin m_token m_told m_read m_harbour m_now m_undone m_undos vv5 vv6 vv7 m_chalks m_cb m_co m_trace m_kept)) (As := [.int p1]) (rest := []) C V hl0 (kX5_offOf l D o0 o1 o2 o3 o4 o5 o6 o7 o8 m_text m_size m_at m_begin m_token m_told m_read m_harbour m_now m_undone m_undos m_one m_two m_three m_chalks m_cb m_co m_trace m_kept p1 rr4 vv5 vv6 vv7 ee8) wm_985 meX5_offOf (by decide) rfl rfl rfl rfl (Nat.le_of_ble_eq_true rfl) rfl dX5_off_18 ?_
    refine tg_goto (tgt := 26) C dX5_off_21 (by decide) ?_
    obtain ⟨rfl, rfl, rfl, rfl⟩ := tg_i4 hs
    exact tg_iret hE rfl dX5_off_26
set_option maxHeartbeats 2000000 in
set_option maxRecDepth 20000 in
theorem kX5_off (l : Launch) (D : tg_D) (o0 o1 o2 o3 o4 o5 o6 o7 o8 : Nat) (m_text : Nat → Int32) (m_size : Int32) (m_at : Int32) (m_begin : Int32) (m_token : Int32) (m_told : Int32) (m_read : Nat → Int32) (m_harbour : Nat → Int32) (m_now : Nat → Int32) (m_undone : Nat → Int32) (m_undos : Int32) (m_one : Int32) (m_two : Int32) (m_three : Int32) (m_chalks : Int32) (m_cb : Nat → Int32) (m_co : Nat → Int32) (m_trace : Int64) (m_kept : Nat → Int32) (p1 : Int32) (r : Int32) (q_m_one : Int32) (q_m_two : Int32) (q_m_three : Int32) (hs : fX5_off m_harbour m_now m_one m_two m_three m_chalks m_cb m_co p1 = some (r, q_m_one, q_m_two, q_m_three)) : Met l yX5_off [Cond.code yX5_off cX5_off 2 (some .int)] (tg_rm 5 112) (tg_Pre D (tw_M D o0 o1 o2 o3 o4 o5 o6 o7 o8 m_text m_size m_at m_begin m_token m_told m_read m_harbour m_now m_undone m_undos m_one m_two m_three m_chalks m_cb m_co m_trace m_kept) [.ref o0, .int p1]) (tg_Qe (some (.int r)) D (tw_M D o0 o1 o2 o3 o4 o5 o6 o7 o8 m_text m_size m_at m_begin m_token m_told m_read m_harbour m_now m_undone m_undos q_m_one q_m_two q_m_three m_chalks m_cb m_co m_trace m_kept) (tg_Ad (tw_M D o0 o1 o2 o3 o4 o5 o6 o7 o8 m_text m_size m_at m_begin m_token m_told m_read m_harbour m_now m_undone m_undos m_one m_two m_three m_chalks m_cb m_co m_trace m_kept))) 0 0 (tg_Ad (tw_M D o0 o1 o2 o3 o4 o5 o6 o7 o8 m_text m_size m_at m_begin m_token m_told m_read m_harbour m_now m_undone m_undos m_one m_two m_three m_chalks m_cb m_co m_trace m_kept)) := tg_metEi (by decide) (Nat.le_of_ble_eq_true rfl) (fun X hl0 C V hE => vX5_off l D o0 o1 o2 o3 o4 o5 o6 o7 o8 m_text m_size m_at m_begin m_token m_told m_read m_harbour m_now m_undone m_undos m_one m_two m_three m_chalks m_cb m_co m_trace m_kept p1 X hl0 C V r q_m_one q_m_two q_m_three hs hE)
