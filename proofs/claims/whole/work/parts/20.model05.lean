def fX5_ends (m_harbour : Nat → Int32) (m_now : Nat → Int32) : Option ((Nat → Int32)) := tg_nm (m_now 0) fun vv1 => tg_nm (1 - vv1) fun vv2 => tg_b1 (fX5_berths m_harbour m_now vv1) fun rr3 => tg_b1 (fX5_many rr3) fun rr5 => if rr5 < (m_harbour 1) then (tg_ck (5 + vv2) 27 <| if ¬ (m_now (Int32.toNatClampNeg (5 + vv2))) = 1 then (tg_nm (upd m_now 0 vv2) fun gg10 => some gg10) else (if ¬ (m_now 2) = (-9) then (tg_nm (upd m_now 0 vv2) fun gg12 => some gg12) else (tg_ck (5 + vv2) 27 <| tg_nm (upd m_now (Int32.toNatClampNeg (5 + vv2)) 0) fun gg13 => some gg13))) else (tg_nm (upd m_now 7 vv1) fun gg15 => tg_nm (upd gg15 0 (-9)) fun gg16 => some gg16)
set_option maxHeartbeats 2000000 in
set_option maxRecDepth 20000 in
theorem vX5_ends (l : Launch) (D : tg_D) (o0 o1 o2 o3 o4 o5 o6 o7 o8 : Nat) (m_text : Nat → Int32) (m_size : Int32) (m_at : Int32) (m_begin : Int32) (m_token : Int32) (m_told : Int32) (m_read : Nat → Int32) (m_harbour : Nat → Int32) (m_now : Nat → Int32) (m_undone : Nat → Int32) (m_undos : Int32) (m_one : Int32) (m_two : Int32) (m_three : Int32) (m_chalks : Int32) (m_cb : Nat → Int32) (m_co : Nat → Int32) (m_trace : Int64) (m_kept : Nat → Int32) (X : tg_X) (hl0 : tg_l X = l) (C : tg_C X D 3 cX5_ends RX5 1 23 0 0) (V : tg_V X) (q_m_now : Nat → Int32) (hs : fX5_ends m_harbour m_now = some q_m_now) (hE : tg_Ev X D 0 0 cX5_ends (tw_M D o0 o1 o2 o3 o4 o5 o6 o7 o8 m_text m_size m_at m_begin m_token m_told m_read m_harbour q_m_now m_undone m_undos m_one m_two m_three m_chalks m_cb m_co m_trace m_kept)) : tg_G X D 3 0 0 (tw_M D o0 o1 o2 o3 o4 o5 o6 o7 o8 m_text m_size m_at m_begin m_token m_told m_read m_harbour m_now m_undone m_undos m_one m_two m_three m_chalks m_cb m_co m_trace m_kept) [(0, .ref o0)] 0 [] := by
  unfold fX5_ends at hs
  refine tg_aload_n C dX5_ends_0 rfl 0 rfl ?_
  refine tg_get (v := .ref o4) C cfX5 0 rfl 8 (by decide) wm_713 rfl dX5_ends_1 ?_
  refine tg_iconst (v := 0) C dX5_ends_4 (by decide) ?_
  refine tg_iald C 4 0 rfl rfl (tg_vin (by decide)) dX5_ends_5 ?_
  refine tg_topi (y := m_now 0) rfl ?_
  obtain ⟨vv1, evv1, hs⟩ := tg_nm_e hs
  refine tg_topi evv1 ?_
  refine tg_istore_n (lv' := [(1, .int vv1), (0, .ref o0)]) C dX5_ends_6 rfl (by decide) rfl ?_
  refine tg_iconst (v := 1) C dX5_ends_7 (by decide) ?_
  refine tg_iload_n C dX5_ends_8 rfl 0 rfl ?_
  refine tg_isub C dX5_ends_9 ?_
  obtain ⟨vv2, evv2, hs⟩ := tg_nm_e hs
  refine tg_topi evv2 ?_
  refine tg_istore_n (lv' := [(2, .int vv2), (1, .int vv1), (0, .ref o0)]) C dX5_ends_10 rfl (by decide) rfl ?_
  refine tg_aload_n C dX5_ends_11 rfl 2 rfl ?_
  refine tg_iload_n C dX5_ends_12 rfl 1 rfl ?_
  obtain ⟨rr3, ee4, hs⟩ := tg_b1_e hs
  refine tg_pVs (As := [.int vv1]) (rest := []) C hl0 (kX5_berths l D o0 o1 o2 o3 o4 o5 o6 o7 o8 m_text m_size m_at m_begin m_token m_told m_read m_harbour m_now m_undone m_undos m_one m_two m_three m_chalks m_cb m_co m_trace m_kept vv1 rr3 ee4) wm_848 meX5_berths (by decide) rfl rfl rfl rfl (Nat.le_of_ble_eq_true rfl) dX5_ends_13 ?_
  obtain ⟨rr5, ee6, hs⟩ := tg_b1_e hs
  refine tg_pS (As := [.int rr3]) (rest := []) C hl0 (kX5_many l D rr3 rr5 ee6) wm_856 meX5_many (by decide) rfl rfl (Nat.le_of_ble_eq_true rfl) dX5_ends_16 ?_
  refine tg_aload_n C dX5_ends_19 rfl 2 rfl ?_
  refine tg_get (v := .ref o3) C cfX5 0 rfl 7 (by decide) wm_712 rfl dX5_ends_20 ?_
  refine tg_iconst (v := 1) C dX5_ends_23 (by decide) ?_
  refine tg_iald C 3 0 rfl rfl (tg_vin (by decide)) dX5_ends_24 ?_
  refine tg_topi (y := m_harbour 1) rfl ?_
  refine tg_icmp_lt (tgt := 47) C dX5_ends_25 (by decide) (fun cc7 => ?_) (fun cc7 => ?_)
  · have hs := tg_t cc7 hs
    refine tg_aload_n C dX5_ends_47 rfl 2 rfl ?_
    refine tg_get (v := .ref o4) C cfX5 0 rfl 8 (by decide) wm_713 rfl dX5_ends_48 ?_
    refine tg_iconst (v := 5) C dX5_ends_51 (by decide) ?_
    refine tg_iload_n C dX5_ends_52 rfl 0 rfl ?_
    refine tg_iadd C dX5_ends_53 ?_
    obtain ⟨hh8, hs⟩ := tg_ck_e hs
    refine tg_iald C 4 0 rfl rfl hh8 dX5_ends_54 ?_
    refine tg_iconst (v := 1) C dX5_ends_55 (by decide) ?_
    refine tg_icmp_ne (tgt := 82) C dX5_ends_56 (by decide) (fun cc9 => ?_) (fun cc9 => ?_)
    · have hs := tg_t cc9 hs
      refine tg_aload_n C dX5_ends_82 rfl 2 rfl ?_
      refine tg_get (v := .ref o4) C cfX5 0 rfl 8 (by decide) wm_713 rfl dX5_ends_83 ?_
      refine tg_iconst (v := 0) C dX5_ends_86 (by decide) ?_
      refine tg_iload_n C dX5_ends_87 rfl 0 rfl ?_
      obtain ⟨gg10, egg10, hs⟩ := tg_nm_e hs
      refine tg_iast (ws' := (tw_M D o0 o1 o2 o3 o4 o5 o6 o7 o8 m_text m_size m_at m_begin m_token m_told m_read m_harbour gg10 m_undone m_undos m_one m_two m_three m_chalks m_cb m_co m_trace m_kept)) C V 4 0 rfl rfl (tg_vin (by decide)) (by rw [egg10]; rfl) rfl dX5_ends_88 ?_
      obtain rfl := Option.some.inj hs
      exact tg_vret hE dX5_ends_89
    · have hs := tg_nf cc9 hs
      refine tg_aload_n C dX5_ends_59 rfl 2 rfl ?_
      refine tg_get (v := .ref o4) C cfX5 0 rfl 8 (by decide) wm_713 rfl dX5_ends_60 ?_
      refine tg_iconst (v := 2) C dX5_ends_63 (by decide) ?_
      refine tg_iald C 4 0 rfl rfl (tg_vin (by decide)) dX5_ends_64 ?_
      refine tg_topi (y := m_now 2) rfl ?_
      refine tg_bipush (v := (-9)) C dX5_ends_65 (by decide) ?_
      refine tg_icmp_ne (tgt := 82) C dX5_ends_67 (by decide) (fun cc11 => ?_) (fun cc11 => ?_)
      · have hs := tg_t cc11 hs
        refine tg_aload_n C dX5_ends_82 rfl 2 rfl ?_
        refine tg_get (v := .ref o4) C cfX5 0 rfl 8 (by decide) wm_713 rfl dX5_ends_83 ?_
        refine tg_iconst (v := 0) C dX5_ends_86 (by decide) ?_
        refine tg_iload_n C dX5_ends_87 rfl 0 rfl ?_
        obtain ⟨gg12, egg12, hs⟩ := tg_nm_e hs
        refine tg_iast (ws' := (tw_M D o0 o1 o2 o3 o4 o5 o6 o7 o8 m_text m_size m_at m_begin m_token m_told m_read m_harbour gg12 m_undone m_undos m_one m_two m_three m_chalks m_cb m_co m_trace m_kept)) C V 4 0 rfl rfl (tg_vin (by decide)) (by rw [egg12]; rfl) rfl dX5_ends_88 ?_
        obtain rfl := Option.some.inj hs
        exact tg_vret hE dX5_ends_89
      · have hs := tg_nf cc11 hs
        refine tg_aload_n C dX5_ends_70 rfl 2 rfl ?_
        refine tg_get (v := .ref o4) C cfX5 0 rfl 8 (by decide) wm_713 rfl dX5_ends_71 ?_
        refine tg_iconst (v := 5) C dX5_ends_74 (by decide) ?_
        refine tg_iload_n C dX5_ends_75 rfl 0 rfl ?_
        refine tg_iadd C dX5_ends_76 ?_
        refine tg_iconst (v := 0) C dX5_ends_77 (by decide) ?_
        obtain ⟨hh14, hs⟩ := tg_ck_e hs
        obtain ⟨gg13, egg13, hs⟩ := tg_nm_e hs
        refine tg_iast (ws' := (tw_M D o0 o1 o2 o3 o4 o5 o6 o7 o8 m_text m_size m_at m_begin m_token m_told m_read m_harbour gg13 m_undone m_undos m_one m_two m_three m_chalks m_cb m_co m_trace m_kept)) C V 4 0 rfl rfl hh14 egg13 rfl dX5_ends_78 ?_
        refine tg_goto (tgt := 89) C dX5_ends_79 (by decide) ?_
        obtain rfl := Option.some.inj hs
        exact tg_vret hE dX5_ends_89
  · have hs := tg_f cc7 hs
    refine tg_aload_n C dX5_ends_28 rfl 2 rfl ?_
    refine tg_get (v := .ref o4) C cfX5 0 rfl 8 (by decide) wm_713 rfl dX5_ends_29 ?_
    refine tg_bipush (v := 7) C dX5_ends_32 (by decide) ?_
    refine tg_iload_n C dX5_ends_34 rfl 1 rfl ?_
    obtain ⟨gg15, egg15, hs⟩ := tg_nm_e hs
    refine tg_iast (ws' := (tw_M D o0 o1 o2 o3 o4 o5 o6 o7 o8 m_text m_size m_at m_begin m_token m_told m_read m_harbour gg15 m_undone m_undos m_one m_two m_three m_chalks m_cb m_co m_trace m_kept)) C V 4 0 rfl rfl (tg_vin (by decide)) (by rw [egg15]; rfl) rfl dX5_ends_35 ?_
    refine tg_aload_n C dX5_ends_36 rfl 2 rfl ?_
    refine tg_get (v := .ref o4) C cfX5 0 rfl 8 (by decide) wm_713 rfl dX5_ends_37 ?_
    refine tg_iconst (v := 0) C dX5_ends_40 (by decide) ?_
    refine tg_bipush (v := (-9)) C dX5_ends_41 (by decide) ?_
    obtain ⟨gg16, egg16, hs⟩ := tg_nm_e hs
    refine tg_iast (ws' := (tw_M D o0 o1 o2 o3 o4 o5 o6 o7 o8 m_text m_size m_at m_begin m_token m_told m_read m_harbour gg16 m_undone m_undos m_one m_two m_three m_chalks m_cb m_co m_trace m_kept)) C V 4 0 rfl rfl (tg_vin (by decide)) (by rw [egg16]; rfl) rfl dX5_ends_43 ?_
    refine tg_goto (tgt := 89) C dX5_ends_44 (by decide) ?_
    obtain rfl := Option.some.inj hs
    exact tg_vret hE dX5_ends_89
set_option maxHeartbeats 2000000 in
set_option maxRecDepth 20000 in
theorem kX5_ends (l : Launch) (D : tg_D) (o0 o1 o2 o3 o4 o5 o6 o7 o8 : Nat) (m_text : Nat → Int32) (m_size : Int32) (m_at : Int32) (m_begin : Int32) (m_token : Int32) (m_told : Int32) (m_read : Nat → Int32) (m_harbour : Nat → Int32) (m_now : Nat → Int32) (m_undone : Nat → Int32) (m_undos : Int32) (m_one : Int32) (m_two : Int32) (m_three : Int32) (m_chalks : Int32) (m_cb : Nat → Int32) (m_co : Nat → Int32) (m_trace : Int64) (m_kept : Nat → Int32) (q_m_now : Nat → Int32) (hs : fX5_ends m_harbour m_now = some q_m_now) : Met l yX5_ends [Cond.code yX5_ends cX5_ends 3 none] (tg_rm 1 23) (tg_Pre D (tw_M D o0 o1 o2 o3 o4 o5 o6 o7 o8 m_text m_size m_at m_begin m_token m_told m_read m_harbour m_now m_undone m_undos m_one m_two m_three m_chalks m_cb m_co m_trace m_kept) [.ref o0]) (tg_Qe none D (tw_M D o0 o1 o2 o3 o4 o5 o6 o7 o8 m_text m_size m_at m_begin m_token m_told m_read m_harbour q_m_now m_undone m_undos m_one m_two m_three m_chalks m_cb m_co m_trace m_kept) (tg_Ad (tw_M D o0 o1 o2 o3 o4 o5 o6 o7 o8 m_text m_size m_at m_begin m_token m_told m_read m_harbour m_now m_undone m_undos m_one m_two m_three m_chalks m_cb m_co m_trace m_kept))) 0 0 (tg_Ad (tw_M D o0 o1 o2 o3 o4 o5 o6 o7 o8 m_text m_size m_at m_begin m_token m_told m_read m_harbour m_now m_undone m_undos m_one m_two m_three m_chalks m_cb m_co m_trace m_kept)) := tg_metEv (by decide) (Nat.le_of_ble_eq_true rfl) (fun X hl0 C V hE => vX5_ends l D o0 o1 o2 o3 o4 o5 o6 o7 o8 m_text m_size m_at m_begin m_token m_told m_read m_harbour m_now m_undone m_undos m_one m_two m_three m_chalks m_cb m_co m_trace m_kept X hl0 C V q_m_now hs hE)
def fX5_gives (m_harbour : Nat → Int32) (m_now : Nat → Int32) (p1 : Int32) : Option (Int32) := tg_b1 (fX5_berths m_harbour m_now (1 - (m_now 0))) fun rr1 => tg_b1 (fX5_many (rr1 &&& ((1 <<< (p1 &&& 31)) - 1))) fun rr3 => some rr3
set_option maxHeartbeats 2000000 in
set_option maxRecDepth 20000 in
theorem vX5_gives (l : Launch) (D : tg_D) (o0 o1 o2 o3 o4 o5 o6 o7 o8 : Nat) (m_text : Nat → Int32) (m_size : Int32) (m_at : Int32) (m_begin : Int32) (m_token : Int32) (m_told : Int32) (m_read : Nat → Int32) (m_harbour : Nat → Int32) (m_now : Nat → Int32) (m_undone : Nat → Int32) (m_undos : Int32) (m_one : Int32) (m_two : Int32) (m_three : Int32) (m_chalks : Int32) (m_cb : Nat → Int32) (m_co : Nat → Int32) (m_trace : Int64) (m_kept : Nat → Int32) (p1 : Int32) (X : tg_X) (hl0 : tg_l X = l) (C : tg_C X D 2 cX5_gives RX5 1 23 0 0) (r : Int32) (hs : fX5_gives m_harbour m_now p1 = some r) (hE : tg_Ei X D 0 0 cX5_gives .int r (tw_M D o0 o1 o2 o3 o4 o5 o6 o7 o8 m_text m_size m_at m_begin m_token m_told m_read m_harbour m_now m_undone m_undos m_one m_two m_three m_chalks m_cb m_co m_trace m_kept)) : tg_G X D 2 0 0 (tw_M D o0 o1 o2 o3 o4 o5 o6 o7 o8 m_text m_size m_at m_begin m_token m_told m_read m_harbour m_now m_undone m_undos m_one m_two m_three m_chalks m_cb m_co m_trace m_kept) [(0, .ref o0), (1, .int p1)] 0 [] := by
  unfold fX5_gives at hs
  refine tg_aload_n C dX5_gives_0 rfl 0 rfl ?_
  refine tg_iconst (v := 1) C dX5_gives_1 (by decide) ?_
  refine tg_aload_n C dX5_gives_2 rfl 0 rfl ?_
  refine tg_get (v := .ref o4) C cfX5 0 rfl 8 (by decide) wm_713 rfl dX5_gives_3 ?_
  refine tg_iconst (v := 0) C dX5_gives_6 (by decide) ?_
  refine tg_iald C 4 0 rfl rfl (tg_vin (by decide)) dX5_gives_7 ?_
  refine tg_topi (y := m_now 0) rfl ?_
  refine tg_isub C dX5_gives_8 ?_
  obtain ⟨rr1, ee2, hs⟩ := tg_b1_e hs
  refine tg_pVs (As := [.int (1 - (m_now 0))]) (rest := []) C hl0 (kX5_berths l D o0 o1 o2 o3 o4 o5 o6 o7 o8 m_text m_size m_at m_begin m_token m_told m_read m_harbour m_now m_undone m_undos m_one m_two m_three m_chalks m_cb m_co m_trace m_kept (1 - (m_now 0)) rr1 ee2) wm_848 meX5_berths (by decide) rfl rfl rfl rfl (Nat.le_of_ble_eq_true rfl) dX5_gives_9 ?_
  refine tg_iconst (v := 1) C dX5_gives_12 (by decide) ?_
  refine tg_iload_n C dX5_gives_13 rfl 1 rfl ?_
  refine tg_ishl C dX5_gives_14 ?_
  refine tg_iconst (v := 1) C dX5_gives_15 (by decide) ?_
  refine tg_isub C dX5_gives_16 ?_
  refine tg_iand C dX5_gives_17 ?_
  obtain ⟨rr3, ee4, hs⟩ := tg_b1_e hs
  refine tg_pS (As := [.int (rr1 &&& ((1 <<< (p1 &&& 31)) - 1))]) (rest := []) C hl0 (kX5_many l D (rr1 &&& ((1 <<< (p1 &&& 31)) - 1)) rr3 ee4) wm_856 meX5_many (by decide) rfl rfl (Nat.le_of_ble_eq_true rfl) dX5_gives_18 ?_
  obtain rfl := Option.some.inj hs
  exact tg_iret hE rfl dX5_gives_21
set_option maxHeartbeats 2000000 in
set_option maxRecDepth 20000 in
theorem kX5_gives (l : Launch) (D : tg_D) (o0 o1 o2 o3 o4 o5 o6 o7 o8 : Nat) (m_text : Nat → Int32) (m_size : Int32) (m_at : Int32) (m_begin : Int32) (m_token : Int32) (m_told : Int32) (m_read : Nat → Int32) (m_harbour : Nat → Int32) (m_now : Nat → Int32) (m_undone : Nat → Int32) (m_undos : Int32) (m_one : Int32) (m_two : Int32) (m_three : Int32) (m_chalks : Int32) (m_cb : Nat → Int32) (m_co : Nat → Int32) (m_trace : Int64) (m_kept : Nat → Int32) (p1 : Int32) (r : Int32) (hs : fX5_gives m_harbour m_now p1 = some r) : Met l yX5_gives [Cond.code yX5_gives cX5_gives 2 (some .int)] (tg_rm 1 23) (tg_Pre D (tw_M D o0 o1 o2 o3 o4 o5 o6 o7 o8 m_text m_size m_at m_begin m_token m_told m_read m_harbour m_now m_undone m_undos m_one m_two m_three m_chalks m_cb m_co m_trace m_kept) [.ref o0, .int p1]) (vp_Si (fun r' => r' = r)) 0 0 (fun _ => False) := tg_metI (by decide) (Nat.le_of_ble_eq_true rfl) (fun X hl0 C hE => vX5_gives l D o0 o1 o2 o3 o4 o5 o6 o7 o8 m_text m_size m_at m_begin m_token m_told m_read m_harbour m_now m_undone m_undos m_one m_two m_three m_chalks m_cb m_co m_trace m_kept p1 X hl0 C r hs hE)
def fX5_takes (m_harbour : Nat → Int32) (m_now : Nat → Int32) (m_undone : Nat → Int32) (m_undos : Int32) (p1 : Int32) : Option (Int32 × (Nat → Int32) × (Nat → Int32) × Int32) := tg_b1 (fX5_isBerth m_harbour p1) fun rr1 => if ¬ rr1 = 0 then (tg_b1 (fX5_open m_harbour m_now) fun rr4 => if ((rr4 >>> (p1 &&& 31)) &&& 1) = 0 then (some ((-2), m_now, m_undone, m_undos)) else (tg_b1 (fX5_isWon m_now) fun rr7 => if rr7 = 0 then (tg_b2 (fX5_notes m_now m_undone m_undos) fun gg10 vv11 => tg_b1 (fX5_gives m_harbour m_now p1) fun rr13 => tg_b1 (fX5_tides m_now (1 - (m_now 0)) rr13) fun gg15 => tg_nm (gg15 0) fun vv17 => tg_ck (8 + p1) 27 <| tg_nm (upd gg15 (Int32.toNatClampNeg (8 + p1)) vv17) fun gg18 => tg_nm (upd gg18 2 (-9)) fun gg20 => tg_b1 (fX5_ends m_harbour gg20) fun gg21 => some (rr13, gg21, gg10, vv11)) else (some ((-2), m_now, m_undone, m_undos)))) else (some ((-1), m_now, m_undone, m_undos))
set_option maxHeartbeats 2000000 in
set_option maxRecDepth 20000 in
theorem vX5_takes (l : Launch) (D : tg_D) (o0 o1 o2 o3 o4 o5 o6 o7 o8 : Nat) (m_text : Nat → Int32) (m_size : Int32) (m_at : Int32) (m_begin : Int32) (m_token : Int32) (m_told : Int32) (m_read : Nat → Int32) (m_harbour : Nat → Int32) (m_now : Nat → Int32) (m_undone : Nat → Int32) (m_undos : Int32) (m_one : Int32) (m_two : Int32) (m_three : Int32) (m_chalks : Int32) (m_cb : Nat → Int32) (m_co : Nat → Int32) (m_trace : Int64) (m_kept : Nat → Int32) (p1 : Int32) (X : tg_X) (hl0 : tg_l X = l) (C : tg_C X D 3 cX5_takes RX5 3 64 0 0) (V : tg_V X) (r : Int32) (q_m_now : Nat → Int32) (q_m_undone : Nat → Int32) (q_m_undos : Int32) (hs : fX5_takes m_harbour m_now m_undone m_undos p1 = some (r, q_m_now, q_m_undone, q_m_undos)) (hE : tg_Ei X D 0 0 cX5_takes .int r (tw_M D o0 o1 o2 o3 o4 o5 o6 o7 o8 m_text m_size m_at m_begin m_token m_told m_read m_harbour q_m_now q_m_undone q_m_undos m_one m_two m_three m_chalks m_cb m_co m_trace m_kept)) : tg_G X D 3 0 0 (tw_M D o0 o1 o2 o3 o4 o5 o6 o7 o8 m_text m_size m_at m_begin m_token m_told m_read m_harbour m_now m_undone m_undos m_one m_two m_three m_chalks m_cb m_co m_trace m_kept) [(0, .ref o0), (1, .int p1)] 0 [] := by
  unfold fX5_takes at hs
  refine tg_aload_n C dX5_takes_0 rfl 0 rfl ?_
  refine tg_iload_n C dX5_takes_1 rfl 1 rfl ?_
  obtain ⟨rr1, ee2, hs⟩ := tg_b1_e hs
  refine tg_pVs (As := [.int p1]) (rest := []) C hl0 (kX5_isBerth l D o0 o1 o2 o3 o4 o5 o6 o7 o8 m_text m_size m_at m_begin m_token m_told m_read m_harbour m_now m_undone m_undos m_one m_two m_three m_chalks m_cb m_co m_trace m_kept p1 rr1 ee2) wm_839 meX5_isBerth (by decide) rfl rfl rfl rfl (Nat.le_of_ble_eq_true rfl) dX5_takes_2 ?_
  refine tg_if_ne (tgt := 10) C dX5_takes_5 (by decide) (fun cc3 => ?_) (fun cc3 => ?_)
  · have hs := tg_t cc3 hs
    refine tg_aload_n C dX5_takes_10 rfl 0 rfl ?_
    obtain ⟨rr4, ee5, hs⟩ := tg_b1_e hs
    refine tg_pVs (As := []) (rest := []) C hl0 (kX5_open l D o0 o1 o2 o3 o4 o5 o6 o7 o8 m_text m_size m_at m_begin m_token m_told m_read m_harbour m_now m_undone m_undos m_one m_two m_three m_chalks m_cb m_co m_trace m_kept rr4 ee5) wm_902 meX5_open (by decide) rfl rfl rfl rfl (Nat.le_of_ble_eq_true rfl) dX5_takes_11 ?_
    refine tg_iload_n C dX5_takes_14 rfl 1 rfl ?_
    refine tg_ishr C dX5_takes_15 ?_
    refine tg_iconst (v := 1) C dX5_takes_16 (by decide) ?_
    refine tg_iand C dX5_takes_17 ?_
    refine tg_if_eq (tgt := 28) C dX5_takes_18 (by decide) (fun cc6 => ?_) (fun cc6 => ?_)
    · have hs := tg_t cc6 hs
      refine tg_bipush (v := (-2)) C dX5_takes_28 (by decide) ?_
      obtain ⟨rfl, rfl, rfl, rfl⟩ := tg_i4 hs
      exact tg_iret hE rfl dX5_takes_30
    · have hs := tg_f cc6 hs
      refine tg_aload_n C dX5_takes_21 rfl 0 rfl ?_
      obtain ⟨rr7, ee8, hs⟩ := tg_b1_e hs
      refine tg_pVs (As := []) (rest := []) C hl0 (kX5_isWon l D o0 o1 o2 o3 o4 o5 o6 o7 o8 m_text m_size m_at m_begin m_token m_told m_read m_harbour m_now m_undone m_undos m_one m_two m_three m_chalks m_cb m_co m_trace m_kept rr7 ee8) wm_891 meX5_isWon (by decide) rfl rfl rfl rfl (Nat.le_of_ble_eq_true rfl) dX5_takes_22 ?_
      refine tg_if_eq (tgt := 31) C dX5_takes_25 (by decide) (fun cc9 => ?_) (fun cc9 => ?_)
      · have hs := tg_t cc9 hs
        refine tg_aload_n C dX5_takes_31 rfl 0 rfl ?_
        obtain ⟨gg10, vv11, ee12, hs⟩ := tg_b2_e hs
        refine tg_eVs (ws' := (tw_M D o0 o1 o2 o3 o4 o5 o6 o7 o8 m_text m_size m_at m_begin m_token m_told m_read m_harbour m_now gg10 vv11 m_one m_two m_three m_chalks m_cb m_co m_trace m_kept)) (As := []) (rest := []) C V hl0 (kX5_notes l D o0 o1 o2 o3 o4 o5 o6 o7 o8 m_text m_size m_at m_begin m_token m_told m_read m_harbour m_now m_undone m_undos m_one m_two m_three m_chalks m_cb m_co m_trace m_kept gg10 vv11 ee12) wm_895 meX5_notes (by decide) rfl rfl rfl rfl (Nat.le_of_ble_eq_true rfl) rfl dX5_takes_32 ?_
        refine tg_aload_n C dX5_takes_35 rfl 0 rfl ?_
        refine tg_iload_n C dX5_takes_36 rfl 1 rfl ?_
        obtain ⟨rr13, ee14, hs⟩ := tg_b1_e hs
        refine tg_pVs (As := [.int p1]) (rest := []) C hl0 (kX5_gives l D o0 o1 o2 o3 o4 o5 o6 o7 o8 m_text m_size m_at m_begin m_token m_told m_read m_harbour m_now gg10 vv11 m_one m_two m_three m_chalks m_cb m_co m_trace m_kept p1 rr13 ee14) wm_910 meX5_gives (by decide) rfl rfl rfl rfl (Nat.le_of_ble_eq_true rfl) dX5_takes_37 ?_
        refine tg_istore_n (lv' := [(2, .int rr13), (0, .ref o0), (1, .int p1)]) C dX5_takes_40 rfl (by decide) rfl ?_
        refine tg_aload_n C dX5_takes_41 rfl 1 rfl ?_
        refine tg_iconst (v := 1) C dX5_takes_42 (by decide) ?_
        refine tg_aload_n C dX5_takes_43 rfl 1 rfl ?_
        refine tg_get (v := .ref o4) C cfX5 0 rfl 8 (by decide) wm_713 rfl dX5_takes_44 ?_
        refine tg_iconst (v := 0) C dX5_takes_47 (by decide) ?_
        refine tg_iald C 4 0 rfl rfl (tg_vin (by decide)) dX5_takes_48 ?_
        refine tg_topi (y := m_now 0) rfl ?_
        refine tg_isub C dX5_takes_49 ?_
        refine tg_iload_n C dX5_takes_50 rfl 0 rfl ?_
        obtain ⟨gg15, ee16, hs⟩ := tg_b1_e hs
        refine tg_eVs (ws' := (tw_M D o0 o1 o2 o3 o4 o5 o6 o7 o8 m_text m_size m_at m_begin m_token m_told m_read m_harbour gg15 gg10 vv11 m_one m_two m_three m_chalks m_cb m_co m_trace m_kept)) (As := [.int (1 - (m_now 0)), .int rr13]) (rest := []) C V hl0 (kX5_tides l D o0 o1 o2 o3 o4 o5 o6 o7 o8 m_text m_size m_at m_begin m_token m_told m_read m_harbour m_now gg10 vv11 m_one m_two m_three m_chalks m_cb m_co m_trace m_kept (1 - (m_now 0)) rr13 gg15 ee16) wm_914 meX5_tides (by decide) rfl rfl rfl rfl (Nat.le_of_ble_eq_true rfl) rfl dX5_takes_51 ?_
        refine tg_aload_n C dX5_takes_54 rfl 1 rfl ?_
        refine tg_get (v := .ref o4) C cfX5 0 rfl 8 (by decide) wm_713 rfl dX5_takes_55 ?_
        refine tg_bipush (v := 8) C dX5_takes_58 (by decide) ?_
        refine tg_iload_n C dX5_takes_60 rfl 2 rfl ?_
        refine tg_iadd C dX5_takes_61 ?_
        refine tg_aload_n C dX5_takes_62 rfl 1 rfl ?_
        refine tg_get (v := .ref o4) C cfX5 0 rfl 8 (by decide) wm_713 rfl dX5_takes_63 ?_
        refine tg_iconst (v := 0) C dX5_takes_66 (by decide) ?_
        refine tg_iald C 4 0 rfl rfl (tg_vin (by decide)) dX5_takes_67 ?_
        refine tg_topi (y := gg15 0) rfl ?_
        obtain ⟨vv17, evv17, hs⟩ := tg_nm_e hs
        refine tg_topi evv17 ?_
        obtain ⟨hh19, hs⟩ := tg_ck_e hs
        obtain ⟨gg18, egg18, hs⟩ := tg_nm_e hs
        refine tg_iast (ws' := (tw_M D o0 o1 o2 o3 o4 o5 o6 o7 o8 m_text m_size m_at m_begin m_token m_told m_read m_harbour gg18 gg10 vv11 m_one m_two m_three m_chalks m_cb m_co m_trace m_kept)) C V 4 0 rfl rfl hh19 egg18 rfl dX5_takes_68 ?_
        refine tg_aload_n C dX5_takes_69 rfl 1 rfl ?_
        refine tg_get (v := .ref o4) C cfX5 0 rfl 8 (by decide) wm_713 rfl dX5_takes_70 ?_
        refine tg_iconst (v := 2) C dX5_takes_73 (by decide) ?_
        refine tg_bipush (v := (-9)) C dX5_takes_74 (by decide) ?_
        obtain ⟨gg20, egg20, hs⟩ := tg_nm_e hs
        refine tg_iast (ws' := (tw_M D o0 o1 o2 o3 o4 o5 o6 o7 o8 m_text m_size m_at m_begin m_token m_told m_read m_harbour gg20 gg10 vv11 m_one m_two m_three m_chalks m_cb m_co m_trace m_kept)) C V 4 0 rfl rfl (tg_vin (by decide)) (by rw [egg20]; rfl) rfl dX5_takes_76 ?_
        refine tg_aload_n C dX5_takes_77 rfl 1 rfl ?_
        obtain ⟨gg21, ee22, hs⟩ := tg_b1_e hs
        refine tg_eVs (ws' := (tw_M D o0 o1 o2 o3 o4 o5 o6 o7 o8 m_text m_size m_at m_begin m_token m_told m_read m_harbour gg21 gg10 vv11 m_one m_two m_three m_chalks m_cb m_co m_trace m_kept)) (As := []) (rest := []) C V hl0 (kX5_ends l D o0 o1 o2 o3 o4 o5 o6 o7 o8 m_text m_size m_at m_begin m_token m_told m_read m_harbour gg20 gg10 vv11 m_one m_two m_three m_chalks m_cb m_co m_trace m_kept gg21 ee22) wm_918 meX5_ends (by decide) rfl rfl rfl rfl (Nat.le_of_ble_eq_true rfl) rfl dX5_takes_78 ?_
        refine tg_iload_n C dX5_takes_81 rfl 0 rfl ?_
        obtain ⟨rfl, rfl, rfl, rfl⟩ := tg_i4 hs
        exact tg_iret hE rfl dX5_takes_82
      · have hs := tg_f cc9 hs
        refine tg_bipush (v := (-2)) C dX5_takes_28 (by decide) ?_
        obtain ⟨rfl, rfl, rfl, rfl⟩ := tg_i4 hs
        exact tg_iret hE rfl dX5_takes_30
  · have hs := tg_nf cc3 hs
    refine tg_iconst (v := (-1)) C dX5_takes_8 (by decide) ?_
    obtain ⟨rfl, rfl, rfl, rfl⟩ := tg_i4 hs
    exact tg_iret hE rfl dX5_takes_9
set_option maxHeartbeats 2000000 in
set_option maxRecDepth 20000 in
theorem kX5_takes (l : Launch) (D : tg_D) (o0 o1 o2 o3 o4 o5 o6 o7 o8 : Nat) (m_text : Nat → Int32) (m_size : Int32) (m_at : Int32) (m_begin : Int32) (m_token : Int32) (m_told : Int32) (m_read : Nat → Int32) (m_harbour : Nat → Int32) (m_now : Nat → Int32) (m_undone : Nat → Int32) (m_undos : Int32) (m_one : Int32) (m_two : Int32) (m_three : Int32) (m_chalks : Int32) (m_cb : Nat → Int32) (m_co : Nat → Int32) (m_trace : Int64) (m_kept : Nat → Int32) (p1 : Int32) (r : Int32) (q_m_now : Nat → Int32) (q_m_undone : Nat → Int32) (q_m_undos : Int32) (hs : fX5_takes m_harbour m_now m_undone m_undos p1 = some (r, q_m_now, q_m_undone, q_m_undos)) : Met l yX5_takes [Cond.code yX5_takes cX5_takes 3 (some .int)] (tg_rm 3 64) (tg_Pre D (tw_M D o0 o1 o2 o3 o4 o5 o6 o7 o8 m_text m_size m_at m_begin m_token m_told m_read m_harbour m_now m_undone m_undos m_one m_two m_three m_chalks m_cb m_co m_trace m_kept) [.ref o0, .int p1]) (tg_Qe (some (.int r)) D (tw_M D o0 o1 o2 o3 o4 o5 o6 o7 o8 m_text m_size m_at m_begin m_token m_told m_read m_harbour q_m_now q_m_undone q_m_undos m_one m_two m_three m_chalks m_cb m_co m_trace m_kept) (tg_Ad (tw_M D o0 o1 o2 o3 o4 o5 o6 o7 o8 m_text m_size m_at m_begin m_token m_told m_read m_harbour m_now m_undone m_undos m_one m_two m_three m_chalks m_cb m_co m_trace m_kept))) 0 0 (tg_Ad (tw_M D o0 o1 o2 o3 o4 o5 o6 o7 o8 m_text m_size m_at m_begin m_token m_told m_read m_harbour m_now m_undone m_undos m_one m_two m_three m_chalks m_cb m_co m_trace m_kept)) := tg_metEi (by decide) (Nat.le_of_ble_eq_true rfl) (fun X hl0 C V hE => vX5_takes l D o0 o1 o2 o3 o4 o5 o6 o7 o8 m_text m_size m_at m_begin m_token m_told m_read m_harbour m_now m_undone m_undos m_one m_two m_three m_chalks m_cb m_co m_trace m_kept p1 X hl0 C V r q_m_now q_m_undone q_m_undos hs hE)
def fX5_passes (m_harbour : Nat → Int32) (m_now : Nat → Int32) (m_undone : Nat → Int32) (m_undos : Int32) : Option (Int32 × (Nat → Int32) × (Nat → Int32) × Int32) := if (m_now 2) = (-9) then (some ((-2), m_now, m_undone, m_undos)) else (tg_b1 (fX5_open m_harbour m_now) fun rr2 => if ¬ rr2 = 0 then (some ((-2), m_now, m_undone, m_undos)) else (tg_b1 (fX5_isWon m_now) fun rr5 => if rr5 = 0 then (tg_b2 (fX5_notes m_now m_undone m_undos) fun gg8 vv9 => tg_nm (upd m_now 2 (-9)) fun gg11 => tg_b1 (fX5_ends m_harbour gg11) fun gg12 => some (gg12 0, gg12, gg8, vv9)) else (some ((-2), m_now, m_undone, m_undos))))
set_option maxHeartbeats 2000000 in
set_option maxRecDepth 20000 in
theorem vX5_passes (l : Launch) (D : tg_D) (o0 o1 o2 o3 o4 o5 o6 o7 o8 : Nat) (m_text : Nat → Int32) (m_size : Int32) (m_at : Int32) (m_begin : Int32) (m_token : Int32) (m_told : Int32) (m_read : Nat → Int32) (m_harbour : Nat → Int32) (m_now : Nat → Int32) (m_undone : Nat → Int32) (m_undos : Int32) (m_one : Int32) (m_two : Int32) (m_three : Int32) (m_chalks : Int32) (m_cb : Nat → Int32) (m_co : Nat → Int32) (m_trace : Int64) (m_kept : Nat → Int32) (X : tg_X) (hl0 : tg_l X = l) (C : tg_C X D 1 cX5_passes RX5 3 64 0 0) (V : tg_V X) (r : Int32) (q_m_now : Nat → Int32) (q_m_undone : Nat → Int32) (q_m_undos : Int32) (hs : fX5_passes m_harbour m_now m_undone m_undos = some (r, q_m_now, q_m_undone, q_m_undos)) (hE : tg_Ei X D 0 0 cX5_passes .int r (tw_M D o0 o1 o2 o3 o4 o5 o6 o7 o8 m_text m_size m_at m_begin m_token m_told m_read m_harbour q_m_now q_m_undone q_m_undos m_one m_two m_three m_chalks m_cb m_co m_trace m_kept)) : tg_G X D 1 0 0 (tw_M D o0 o1 o2 o3 o4 o5 o6 o7 o8 m_text m_size m_at m_begin m_token m_told m_read m_harbour m_now m_undone m_undos m_one m_two m_three m_chalks m_cb m_co m_trace m_kept) [(0, .ref o0)] 0 [] := by
  unfold fX5_passes at hs
  refine tg_aload_n C dX5_passes_0 rfl 0 rfl ?_
  refine tg_get (v := .ref o4) C cfX5 0 rfl 8 (by decide) wm_713 rfl dX5_passes_1 ?_
  refine tg_iconst (v := 2) C dX5_passes_4 (by decide) ?_
  refine tg_iald C 4 0 rfl rfl (tg_vin (by decide)) dX5_passes_5 ?_
  refine tg_topi (y := m_now 2) rfl ?_
  refine tg_bipush (v := (-9)) C dX5_passes_6 (by decide) ?_
  refine tg_icmp_eq (tgt := 25) C dX5_passes_8 (by decide) (fun cc1 => ?_) (fun cc1 => ?_)
  · have hs := tg_t cc1 hs
    refine tg_bipush (v := (-2)) C dX5_passes_25 (by decide) ?_
    obtain ⟨rfl, rfl, rfl, rfl⟩ := tg_i4 hs
    exact tg_iret hE rfl dX5_passes_27
  · have hs := tg_f cc1 hs
    refine tg_aload_n C dX5_passes_11 rfl 0 rfl ?_
    obtain ⟨rr2, ee3, hs⟩ := tg_b1_e hs
    refine tg_pVs (As := []) (rest := []) C hl0 (kX5_open l D o0 o1 o2 o3 o4 o5 o6 o7 o8 m_text m_size m_at m_begin m_token m_told m_read m_harbour m_now m_undone m_undos m_one m_two m_three m_chalks m_cb m_co m_trace m_kept rr2 ee3) wm_902 meX5_open (by decide) rfl rfl rfl rfl (Nat.le_of_ble_eq_true rfl) dX5_passes_12 ?_
    refine tg_if_ne (tgt := 25) C dX5_passes_15 (by decide) (fun cc4 => ?_) (fun cc4 => ?_)
    · have hs := tg_t cc4 hs
      refine tg_bipush (v := (-2)) C dX5_passes_25 (by decide) ?_
      obtain ⟨rfl, rfl, rfl, rfl⟩ := tg_i4 hs
      exact tg_iret hE rfl dX5_passes_27
    · have hs := tg_nf cc4 hs
      refine tg_aload_n C dX5_passes_18 rfl 0 rfl ?_
      obtain ⟨rr5, ee6, hs⟩ := tg_b1_e hs
      refine tg_pVs (As := []) (rest := []) C hl0 (kX5_isWon l D o0 o1 o2 o3 o4 o5 o6 o7 o8 m_text m_size m_at m_begin m_token m_told m_read m_harbour m_now m_undone m_undos m_one m_two m_three m_chalks m_cb m_co m_trace m_kept rr5 ee6) wm_891 meX5_isWon (by decide) rfl rfl rfl rfl (Nat.le_of_ble_eq_true rfl) dX5_passes_19 ?_
      refine tg_if_eq (tgt := 28) C dX5_passes_22 (by decide) (fun cc7 => ?_) (fun cc7 => ?_)
      · have hs := tg_t cc7 hs
        refine tg_aload_n C dX5_passes_28 rfl 0 rfl ?_
        obtain ⟨gg8, vv9, ee10, hs⟩ := tg_b2_e hs
        refine tg_eVs (ws' := (tw_M D o0 o1 o2 o3 o4 o5 o6 o7 o8 m_text m_size m_at m_begin m_token m_told m_read m_harbour m_now gg8 vv9 m_one m_two m_three m_chalks m_cb m_co m_trace m_kept)) (As := []) (rest := []) C V hl0 (kX5_notes l D o0 o1 o2 o3 o4 o5 o6 o7 o8 m_text m_size m_at m_begin m_token m_told m_read m_harbour m_now m_undone m_undos m_one m_two m_three m_chalks m_cb m_co m_trace m_kept gg8 vv9 ee10) wm_895 meX5_notes (by decide) rfl rfl rfl rfl (Nat.le_of_ble_eq_true rfl) rfl dX5_passes_29 ?_
        refine tg_aload_n C dX5_passes_32 rfl 0 rfl ?_
        refine tg_get (v := .ref o4) C cfX5 0 rfl 8 (by decide) wm_713 rfl dX5_passes_33 ?_
        refine tg_iconst (v := 2) C dX5_passes_36 (by decide) ?_
        refine tg_bipush (v := (-9)) C dX5_passes_37 (by decide) ?_
        obtain ⟨gg11, egg11, hs⟩ := tg_nm_e hs
        refine tg_iast (ws' := (tw_M D o0 o1 o2 o3 o4 o5 o6 o7 o8 m_text m_size m_at m_begin m_token m_told m_read m_harbour gg11 gg8 vv9 m_one m_two m_three m_chalks m_cb m_co m_trace m_kept)) C V 4 0 rfl rfl (tg_vin (by decide)) (by rw [egg11]; rfl) rfl dX5_passes_39 ?_
        refine tg_aload_n C dX5_passes_40 rfl 0 rfl ?_
        obtain ⟨gg12, ee13, hs⟩ := tg_b1_e hs
        refine tg_eVs (ws' := (tw_M D o0 o1 o2 o3 o4 o5 o6 o7 o8 m_text m_size m_at m_begin m_token m_told m_read m_harbour gg12 gg8 vv9 m_one m_two m_three m_chalks m_cb m_co m_trace m_kept)) (As := []) (rest := []) C V hl0 (kX5_ends l D o0 o1 o2 o3 o4 o5 o6 o7 o8 m_text m_size m_at m_begin m_token m_told m_read m_harbour gg11 gg8 vv9 m_one m_two m_three m_chalks m_cb m_co m_trace m_kept gg12 ee13) wm_918 meX5_ends (by decide) rfl rfl rfl rfl (Nat.le_of_ble_eq_true rfl) rfl dX5_passes_41 ?_
        refine tg_aload_n C dX5_passes_44 rfl 0 rfl ?_
        refine tg_get (v := .ref o4) C cfX5 0 rfl 8 (by decide) wm_713 rfl dX5_passes_45 ?_
        refine tg_iconst (v := 0) C dX5_passes_48 (by decide) ?_
        refine tg_iald C 4 0 rfl rfl (tg_vin (by decide)) dX5_passes_49 ?_
        refine tg_topi (y := gg12 0) rfl ?_
        obtain ⟨rfl, rfl, rfl, rfl⟩ := tg_i4 hs
        exact tg_iret hE rfl dX5_passes_50
      · have hs := tg_f cc7 hs
        refine tg_bipush (v := (-2)) C dX5_passes_25 (by decide) ?_
        obtain ⟨rfl, rfl, rfl, rfl⟩ := tg_i4 hs
        exact tg_iret hE rfl dX5_passes_27
set_option maxHeartbeats 2000000 in
set_option maxRecDepth 20000 in
theorem kX5_passes (l : Launch) (D : tg_D) (o0 o1 o2 o3 o4 o5 o6 o7 o8 : Nat) (m_text : Nat → Int32) (m_size : Int32) (m_at : Int32) (m_begin : Int32) (m_token : Int32) (m_told : Int32) (m_read : Nat → Int32) (m_harbour : Nat → Int32) (m_now : Nat → Int32) (m_undone : Nat → Int32) (m_undos : Int32) (m_one : Int32) (m_two : Int32) (m_three : Int32) (m_chalks : Int32) (m_cb : Nat → Int32) (m_co : Nat → Int32) (m_trace : Int64) (m_kept : Nat → Int32) (r : Int32) (q_m_now : Nat → Int32) (q_m_undone : Nat → Int32) (q_m_undos : Int32) (hs : fX5_passes m_harbour m_now m_undone m_undos = some (r, q_m_now, q_m_undone, q_m_undos)) : Met l yX5_passes [Cond.code yX5_passes cX5_passes 1 (some .int)] (tg_rm 3 64) (tg_Pre D (tw_M D o0 o1 o2 o3 o4 o5 o6 o7 o8 m_text m_size m_at m_begin m_token m_told m_read m_harbour m_now m_undone m_undos m_one m_two m_three m_chalks m_cb m_co m_trace m_kept) [.ref o0]) (tg_Qe (some (.int r)) D (tw_M D o0 o1 o2 o3 o4 o5 o6 o7 o8 m_text m_size m_at m_begin m_token m_told m_read m_harbour q_m_now q_m_undone q_m_undos m_one m_two m_three m_chalks m_cb m_co m_trace m_kept) (tg_Ad (tw_M D o0 o1 o2 o3 o4 o5 o6 o7 o8 m_text m_size m_at m_begin m_token m_told m_read m_harbour m_now m_undone m_undos m_one m_two m_three m_chalks m_cb m_co m_trace m_kept))) 0 0 (tg_Ad (tw_M D o0 o1 o2 o3 o4 o5 o6 o7 o8 m_text m_size m_at m_begin m_token m_told m_read m_harbour m_now m_undone m_undos m_one m_two m_three m_chalks m_cb m_co m_trace m_kept)) := tg_metEi (by decide) (Nat.le_of_ble_eq_true rfl) (fun X hl0 C V hE => vX5_passes l D o0 o1 o2 o3 o4 o5 o6 o7 o8 m_text m_size m_at m_begin m_token m_told m_read m_harbour m_now m_undone m_undos m_one m_two m_three m_chalks m_cb m_co m_trace m_kept X hl0 C V r q_m_now q_m_undone q_m_undos hs hE)
def fX5_leaves (m_harbour : Nat → Int32) (m_now : Nat → Int32) (m_undone : Nat → Int32) (m_undos : Int32) : Option (Int32 × (Nat → Int32) × (Nat → Int32) × Int32) := if (m_now 2) = (-9) then (some ((-2), m_now, m_undone, m_undos)) else (tg_b1 (fX5_isWon m_now) fun rr2 => if rr2 = 0 then (tg_b2 (fX5_notes m_now m_undone m_undos) fun gg5 vv6 => tg_b1 (fX5_tides m_now (1 - (m_now 0)) 1) fun gg8 => tg_b1 (fX5_ends m_harbour gg8) fun gg10 => some (gg10 0, gg10, gg5, vv6)) else (some ((-2), m_now, m_undone, m_undos)))
set_option maxHeartbeats 2000000 in
set_option maxRecDepth 20000 in
theorem vX5_leaves (l : Launch) (D : tg_D) (o0 o1 o2 o3 o4 o5 o6 o7 o8 : Nat) (m_text : Nat → Int32) (m_size : Int32) (m_at : Int32) (m_begin : Int32) (m_token : Int32) (m_told : Int32) (m_read : Nat → Int32) (m_harbour : Nat → Int32) (m_now : Nat → Int32) (m_undone : Nat → Int32) (m_undos : Int32) (m_one : Int32) (m_two : Int32) (m_three : Int32) (m_chalks : Int32) (m_cb : Nat → Int32) (m_co : Nat → Int32) (m_trace : Int64) (m_kept : Nat → Int32) (X : tg_X) (hl0 : tg_l X = l) (C : tg_C X D 1 cX5_leaves RX5 2 45 0 0) (V : tg_V X) (r : Int32) (q_m_now : Nat → Int32) (q_m_undone : Nat → Int32) (q_m_undos : Int32) (hs : fX5_leaves m_harbour m_now m_undone m_undos = some (r, q_m_now, q_m_undone, q_m_undos)) (hE : tg_Ei X D 0 0 cX5_leaves .int r (tw_M D o0 o1 o2 o3 o4 o5 o6 o7 o8 m_text m_size m_at m_begin m_token m_told m_read m_harbour q_m_now q_m_undone q_m_undos m_one m_two m_three m_chalks m_cb m_co m_trace m_kept)) : tg_G X D 1 0 0 (tw_M D o0 o1 o2 o3 o4 o5 o6 o7 o8 m_text m_size m_at m_begin m_token m_told m_read m_harbour m_now m_undone m_undos m_one m_two m_three m_chalks m_cb m_co m_trace m_kept) [(0, .ref o0)] 0 [] := by
  unfold fX5_leaves at hs
  refine tg_aload_n C dX5_leaves_0 rfl 0 rfl ?_
  refine tg_get (v := .ref o4) C cfX5 0 rfl 8 (by decide) wm_713 rfl dX5_leaves_1 ?_
  refine tg_iconst (v := 2) C dX5_leaves_4 (by decide) ?_
  refine tg_iald C 4 0 rfl rfl (tg_vin (by decide)) dX5_leaves_5 ?_
  refine tg_topi (y := m_now 2) rfl ?_
  refine tg_bipush (v := (-9)) C dX5_leaves_6 (by decide) ?_
  refine tg_icmp_eq (tgt := 18) C dX5_leaves_8 (by decide) (fun cc1 => ?_) (fun cc1 => ?_)
  · have hs := tg_t cc1 hs
    refine tg_bipush (v := (-2)) C dX5_leaves_18 (by decide) ?_
    obtain ⟨rfl, rfl, rfl, rfl⟩ := tg_i4 hs
    exact tg_iret hE rfl dX5_leaves_20
  · have hs := tg_f cc1 hs
    refine tg_aload_n C dX5_leaves_11 rfl 0 rfl ?_
    obtain ⟨rr2, ee3, hs⟩ := tg_b1_e hs
    refine tg_pVs (As := []) (rest := []) C hl0 (kX5_isWon l D o0 o1 o2 o3 o4 o5 o6 o7 o8 m_text m_size m_at m_begin m_token m_told m_read m_harbour m_now m_undone m_undos m_one m_two m_three m_chalks m_cb m_co m_trace m_kept rr2 ee3) wm_891 meX5_isWon (by decide) rfl rfl rfl rfl (Nat.le_of_ble_eq_true rfl) dX5_leaves_12 ?_
    refine tg_if_eq (tgt := 21) C dX5_leaves_15 (by decide) (fun cc4 => ?_) (fun cc4 => ?_)
    · have hs := tg_t cc4 hs
      refine tg_aload_n C dX5_leaves_21 rfl 0 rfl ?_
      obtain ⟨gg5, vv6, ee7, hs⟩ := tg_b2_e hs
      refine tg_eVs (ws' := (tw_M D o0 o1 o2 o3 o4 o5 o6 o7 o8 m_text m_size m_at m_begin m_token m_told m_read m_harbour m_now gg5 vv6 m_one m_two m_three m_chalks m_cb m_co m_trace m_kept)) (As := []) (rest := []) C V hl0 (kX5_notes l D o0 o1 o2 o3 o4 o5 o6 o7 o8 m_text m_size m_at m_begin m_token m_told m_read m_harbour m_now m_undone m_undos m_one m_two m_three m_chalks m_cb m_co m_trace m_kept gg5 vv6 ee7) wm_895 meX5_notes (by decide) rfl rfl rfl rfl (Nat.le_of_ble_eq_true rfl) rfl dX5_leaves_22 ?_
      refine tg_aload_n C dX5_leaves_25 rfl 0 rfl ?_
      refine tg_iconst (v := 1) C dX5_leaves_26 (by decide) ?_
      refine tg_aload_n C dX5_leaves_27 rfl 0 rfl ?_
      refine tg_get (v := .ref o4) C cfX5 0 rfl 8 (by decide) wm_713 rfl dX5_leaves_28 ?_
      refine tg_iconst (v := 0) C dX5_leaves_31 (by decide) ?_
      refine tg_iald C 4 0 rfl rfl (tg_vin (by decide)) dX5_leaves_32 ?_
      refine tg_topi (y := m_now 0) rfl ?_
      refine tg_isub C dX5_leaves_33 ?_
      refine tg_iconst (v := 1) C dX5_leaves_34 (by decide) ?_
      obtain ⟨gg8, ee9, hs⟩ := tg_b1_e hs
      refine tg_eVs (ws' := (tw_M D o0 o1 o2 o3 o4 o5 o6 o7 o8 m_text m_size m_at m_begin m_token m_told m_read m_harbour gg8 gg5 vv6 m_one m_two m_three m_chalks m_cb m_co m_trace m_kept)) (As := [.int (1 - (m_now 0)), .int 1]) (rest := []) C V hl0 (kX5_tides l D o0 o1 o2 o3 o4 o5 o6 o7 o8 m_text m_size m_at m_begin m_token m_told m_read m_harbour m_now gg5 vv6 m_one m_two m_three m_chalks m_cb m_co m_trace m_kept (1 - (m_now 0)) 1 gg8 ee9) wm_914 meX5_tides (by decide) rfl rfl rfl rfl (Nat.le_of_ble_eq_true rfl) rfl dX5_leaves_35 ?_
      refine tg_aload_n C dX5_leaves_38 rfl 0 rfl ?_
      obtain ⟨gg10, ee11, hs⟩ := tg_b1_e hs
      refine tg_eVs (ws' := (tw_M D o0 o1 o2 o3 o4 o5 o6 o7 o8 m_text m_size m_at m_begin m_token m_told m_read m_harbour gg10 gg5 vv6 m_one m_two m_three m_chalks m_cb m_co m_trace m_kept)) (As := []) (rest := []) C V hl0 (kX5_ends l D o0 o1 o2 o3 o4 o5 o6 o7 o8 m_text m_size m_at m_begin m_token m_told m_read m_harbour gg8 gg5 vv6 m_one m_two m_three m_chalks m_cb m_co m_trace m_kept gg10 ee11) wm_918 meX5_ends (by decide) rfl rfl rfl rfl (Nat.le_of_ble_eq_true rfl) rfl dX5_leaves_39 ?_
      refine tg_aload_n C dX5_leaves_42 rfl 0 rfl ?_
      refine tg_get (v := .ref o4) C cfX5 0 rfl 8 (by decide) wm_713 rfl dX5_leaves_43 ?_
      refine tg_iconst (v := 0) C dX5_leaves_46 (by decide) ?_
      refine tg_iald C 4 0 rfl rfl (tg_vin (by decide)) dX5_leaves_47 ?_
      refine tg_topi (y := gg10 0) rfl ?_
      obtain ⟨rfl, rfl, rfl, rfl⟩ := tg_i4 hs
      exact tg_iret hE rfl dX5_leaves_48
    · have hs := tg_f cc4 hs
      refine tg_bipush (v := (-2)) C dX5_leaves_18 (by decide) ?_
      obtain ⟨rfl, rfl, rfl, rfl⟩ := tg_i4 hs
      exact tg_iret hE rfl dX5_leaves_20
set_option maxHeartbeats 2000000 in
set_option maxRecDepth 20000 in
theorem kX5_leaves (l : Launch) (D : tg_D) (o0 o1 o2 o3 o4 o5 o6 o7 o8 : Nat) (m_text : Nat → Int32) (m_size : Int32) (m_at : Int32) (m_begin : Int32) (m_token : Int32) (m_told : Int32) (m_read : Nat → Int32) (m_harbour : Nat → Int32) (m_now : Nat → Int32) (m_undone : Nat → Int32) (m_undos : Int32) (m_one : Int32) (m_two : Int32) (m_three : Int32) (m_chalks : Int32) (m_cb : Nat → Int32) (m_co : Nat → Int32) (m_trace : Int64) (m_kept : Nat → Int32) (r : Int32) (q_m_now : Nat → Int32) (q_m_undone : Nat → Int32) (q_m_undos : Int32) (hs : fX5_leaves m_harbour m_now m_undone m_undos = some (r, q_m_now, q_m_undone, q_m_undos)) : Met l yX5_leaves [Cond.code yX5_leaves cX5_leaves 1 (some .int)] (tg_rm 2 45) (tg_Pre D (tw_M D o0 o1 o2 o3 o4 o5 o6 o7 o8 m_text m_size m_at m_begin m_token m_told m_read m_harbour m_now m_undone m_undos m_one m_two m_three m_chalks m_cb m_co m_trace m_kept) [.ref o0]) (tg_Qe (some (.int r)) D (tw_M D o0 o1 o2 o3 o4 o5 o6 o7 o8 m_text m_size m_at m_begin m_token m_told m_read m_harbour q_m_now q_m_undone q_m_undos m_one m_two m_three m_chalks m_cb m_co m_trace m_kept) (tg_Ad (tw_M D o0 o1 o2 o3 o4 o5 o6 o7 o8 m_text m_size m_at m_begin m_token m_told m_read m_harbour m_now m_undone m_undos m_one m_two m_three m_chalks m_cb m_co m_trace m_kept))) 0 0 (tg_Ad (tw_M D o0 o1 o2 o3 o4 o5 o6 o7 o8 m_text m_size m_at m_begin m_token m_told m_read m_harbour m_now m_undone m_undos m_one m_two m_three m_chalks m_cb m_co m_trace m_kept)) := tg_metEi (by decide) (Nat.le_of_ble_eq_true rfl) (fun X hl0 C V hE => vX5_leaves l D o0 o1 o2 o3 o4 o5 o6 o7 o8 m_text m_size m_at m_begin m_token m_told m_read m_harbour m_now m_undone m_undos m_one m_two m_three m_chalks m_cb m_co m_trace m_kept X hl0 C V r q_m_now q_m_undone q_m_undos hs hE)
def fX5_undo_L22 (m_undone : Nat → Int32) (m_undos : Int32) : Nat → (Nat → Int32) → Int32 → Option ((Nat → Int32) × Int32)
  | 0, _, _ => none
  | fuel + 1, m_now, n1 => if 27 ≤ n1 then (some (m_now, n1)) else (tg_ck ((27 * m_undos) + n1) 324 <| tg_nm (m_undone (Int32.toNatClampNeg ((27 * m_undos) + n1))) fun vv5 => tg_ck n1 27 <| tg_nm (upd m_now (Int32.toNatClampNeg n1) vv5) fun gg6 => tg_nm (n1 + 1) fun vv8 => fX5_undo_L22 m_undone m_undos fuel gg6 vv8)
def fX5_undo (m_now : Nat → Int32) (m_undone : Nat → Int32) (m_undos : Int32) : Option (Int32 × (Nat → Int32) × Int32) := if ¬ m_undos = 0 then (tg_nm (m_undos - 1) fun vv2 => tg_b2 (fX5_undo_L22 m_undone vv2 400 m_now 0) fun vv9 vv10 => some (vv2, vv9, vv2)) else (some ((-2), m_now, m_undos))
set_option maxHeartbeats 2000000 in
set_option maxRecDepth 20000 in
theorem vX5_undo_L22 (l : Launch) (D : tg_D) (o0 o1 o2 o3 o4 o5 o6 o7 o8 : Nat) (m_text : Nat → Int32) (m_size : Int32) (m_at : Int32) (m_begin : Int32) (m_token : Int32) (m_told : Int32) (m_read : Nat → Int32) (m_harbour : Nat → Int32) (m_undone : Nat → Int32) (m_undos : Int32) (m_one : Int32) (m_two : Int32) (m_three : Int32) (m_chalks : Int32) (m_cb : Nat → Int32) (m_co : Nat → Int32) (m_trace : Int64) (m_kept : Nat → Int32) (X : tg_X) (hl0 : tg_l X = l) (C : tg_C X D 2 cX5_undo RX5 0 0 0 0) (V : tg_V X) (o_m_now : Nat → Int32) (o_n1 : Int32) : ∀ (fuel : Nat) (m_now : Nat → Int32) (n1 : Int32), fX5_undo_L22 m_undone m_undos fuel m_now n1 = some (o_m_now, o_n1) → tg_G X D 2 0 0 (tw_M D o0 o1 o2 o3 o4 o5 o6 o7 o8 m_text m_size m_at m_begin m_token m_told m_read m_harbour o_m_now m_undone m_undos m_one m_two m_three m_chalks m_cb m_co m_trace m_kept) [(0, .ref o0), (1, .int o_n1)] 54 [] → tg_G X D 2 0 0 (tw_M D o0 o1 o2 o3 o4 o5 o6 o7 o8 m_text m_size m_at m_begin m_token m_told m_read m_harbour m_now m_undone m_undos m_one m_two m_three m_chalks m_cb m_co m_trace m_kept) [(0, .ref o0), (1, .int n1)] 22 [] := by
  intro fuel
  induction fuel with
  | zero =>
    intro m_now n1 hs _
    rw [fX5_undo_L22] at hs
    cases hs
  | succ fuel ih =>
    intro m_now n1 hs J
    rw [fX5_undo_L22] at hs
    refine tg_iload_n C dX5_undo_22 rfl 1 rfl ?_
    refine tg_bipush (v := 27) C dX5_undo_23 (by decide) ?_
    refine tg_icmp_ge (tgt := 54) C dX5_undo_25 (by decide) (fun cc3 => ?_) (fun cc3 => ?_)
    · have hs := tg_t cc3 hs
      obtain ⟨rfl, rfl⟩ := tg_i2 hs
      exact J
    · have hs := tg_f cc3 hs
      refine tg_aload_n C dX5_undo_28 rfl 0 rfl ?_
      refine tg_get (v := .ref o4) C cfX5 0 rfl 8 (by decide) wm_713 rfl dX5_undo_29 ?_
      refine tg_iload_n C dX5_undo_32 rfl 1 rfl ?_
      refine tg_aload_n C dX5_undo_33 rfl 0 rfl ?_
      refine tg_get (v := .ref o5) C cfX5 0 rfl 9 (by decide) wm_714 rfl dX5_undo_34 ?_
      refine tg_bipush (v := 27) C dX5_undo_37 (by decide) ?_
      refine tg_aload_n C dX5_undo_39 rfl 0 rfl ?_
      refine tg_get (v := .int m_undos) C cfX5 0 rfl 10 (by decide) wm_715 rfl dX5_undo_40 ?_
      refine tg_imul C dX5_undo_43 ?_
      refine tg_iload_n C dX5_undo_44 rfl 1 rfl ?_
      refine tg_iadd C dX5_undo_45 ?_
      obtain ⟨hh4, hs⟩ := tg_ck_e hs
      refine tg_iald C 5 0 rfl rfl hh4 dX5_undo_46 ?_
      obtain ⟨vv5, evv5, hs⟩ := tg_nm_e hs
      refine tg_topi evv5 ?_
      obtain ⟨hh7, hs⟩ := tg_ck_e hs
      obtain ⟨gg6, egg6, hs⟩ := tg_nm_e hs
      refine tg_iast (ws' := (tw_M D o0 o1 o2 o3 o4 o5 o6 o7 o8 m_text m_size m_at m_begin m_token m_told m_read m_harbour gg6 m_undone m_undos m_one m_two m_three m_chalks m_cb m_co m_trace m_kept)) C V 4 0 rfl rfl hh7 egg6 rfl dX5_undo_47 ?_
      obtain ⟨vv8, evv8, hs⟩ := tg_nm_e hs
      refine tg_iinc (v := vv8) (lv' := [(1, .int vv8), (0, .ref o0)]) C dX5_undo_48 1 rfl (by rw [evv8]; rfl) (by decide) rfl ?_
      refine tg_goto (tgt := 22) C dX5_undo_51 (by decide) ?_
      refine tg_lsub [1, 0] rfl ?_
      exact ih gg6 vv8 hs J
set_option maxHeartbeats 2000000 in
set_option maxRecDepth 20000 in
theorem vX5_undo (l : Launch) (D : tg_D) (o0 o1 o2 o3 o4 o5 o6 o7 o8 : Nat) (m_text : Nat → Int32) (m_size : Int32) (m_at : Int32) (m_begin : Int32) (m_token : Int32) (m_told : Int32) (m_read : Nat → Int32) (m_harbour : Nat → Int32) (m_now : Nat → Int32) (m_undone : Nat → Int32) (m_undos : Int32) (m_one : Int32) (m_two : Int32) (m_three : Int32) (m_chalks : Int32) (m_cb : Nat → Int32) (m_co : Nat → Int32) (m_trace : Int64) (m_kept : Nat → Int32) (X : tg_X) (hl0 : tg_l X = l) (C : tg_C X D 2 cX5_undo RX5 0 0 0 0) (V : tg_V X) (r : Int32) (q_m_now : Nat → Int32) (q_m_undos : Int32) (hs : fX5_undo m_now m_undone m_undos = some (r, q_m_now, q_m_undos)) (hE : tg_Ei X D 0 0 cX5_undo .int r (tw_M D o0 o1 o2 o3 o4 o5 o6 o7 o8 m_text m_size m_at m_begin m_token m_told m_read m_harbour q_m_now m_undone q_m_undos m_one m_two m_three m_chalks m_cb m_co m_trace m_kept)) : tg_G X D 2 0 0 (tw_M D o0 o1 o2 o3 o4 o5 o6 o7 o8 m_text m_size m_at m_begin m_token m_told m_read m_harbour m_now m_undone m_undos m_one m_two m_three m_chalks m_cb m_co m_trace m_kept) [(0, .ref o0)] 0 [] := by
  unfold fX5_undo at hs
  refine tg_aload_n C dX5_undo_0 rfl 0 rfl ?_
  refine tg_get (v := .int m_undos) C cfX5 0 rfl 10 (by decide) wm_715 rfl dX5_undo_1 ?_
  refine tg_if_ne (tgt := 10) C dX5_undo_4 (by decide) (fun cc1 => ?_) (fun cc1 => ?_)
  · have hs := tg_t cc1 hs
    refine tg_aload_n C dX5_undo_10 rfl 0 rfl ?_
    refine tg_dup C dX5_undo_11 rfl ?_
    refine tg_get (v := .int m_undos) C cfX5 0 rfl 10 (by decide) wm_715 rfl dX5_undo_12 ?_
    refine tg_iconst (v := 1) C dX5_undo_15 (by decide) ?_
    refine tg_isub C dX5_undo_16 ?_
    obtain ⟨vv2, evv2, hs⟩ := tg_nm_e hs
    refine tg_topi evv2 ?_
    refine tg_put (ws' := (tw_M D o0 o1 o2 o3 o4 o5 o6 o7 o8 m_text m_size m_at m_begin m_token m_told m_read m_harbour m_now m_undone vv2 m_one m_two m_three m_chalks m_cb m_co m_trace m_kept)) C V cfX5 0 rfl 10 (by decide) wm_715 rfl rfl rfl (Nat.le_of_ble_eq_true rfl) rfl dX5_undo_17 ?_
    refine tg_iconst (v := 0) C dX5_undo_20 (by decide) ?_
    refine tg_istore_n (lv' := [(1, .int 0), (0, .ref o0)]) C dX5_undo_21 rfl (by decide) rfl ?_
    refine tg_lsub [1, 0] rfl ?_
    obtain ⟨vv9, vv10, ee11, hs⟩ := tg_b2_e hs
    refine vX5_undo_L22 l D o0 o1 o2 o3 o4 o5 o6 o7 o8 m_text m_size m_at m_begin m_token m_told m_read m_harbour m_undone vv2 m_one m_two m_three m_chalks m_cb m_co m_trace m_kept X hl0 C V vv9 vv10 400 m_now 0 ee11 ?_
    refine tg_aload_n C dX5_undo_54 rfl 0 rfl ?_
    refine tg_get (v := .int vv2) C cfX5 0 rfl 10 (by decide) wm_715 rfl dX5_undo_55 ?_
    obtain ⟨rfl, rfl, rfl⟩ := tg_i3 hs
    exact tg_iret hE rfl dX5_undo_58
  · have hs := tg_nf cc1 hs
    refine tg_bipush (v := (-2)) C dX5_undo_7 (by decide) ?_
    obtain ⟨rfl, rfl, rfl⟩ := tg_i3 hs
    exact tg_iret hE rfl dX5_undo_9
set_option maxHeartbeats 2000000 in
set_option maxRecDepth 20000 in
theorem kX5_undo (l : Launch) (D : tg_D) (o0 o1 o2 o3 o4 o5 o6 o7 o8 : Nat) (m_text : Nat → Int32) (m_size : Int32) (m_at : Int32) (m_begin : Int32) (m_token : Int32) (m_told : Int32) (m_read : Nat → Int32) (m_harbour : Nat → Int32) (m_now : Nat → Int32) (m_undone : Nat → Int32) (m_undos : Int32) (m_one : Int32) (m_two : Int32) (m_three : Int32) (m_chalks : Int32) (m_cb : Nat → Int32) (m_co : Nat → Int32) (m_trace : Int64) (m_kept : Nat → Int32) (r : Int32) (q_m_now : Nat → Int32) (q_m_undos : Int32) (hs : fX5_undo m_now m_undone m_undos = some (r, q_m_now, q_m_undos)) : Met l yX5_undo [Cond.code yX5_undo cX5_undo 2 (some .int)] (tg_rm 0 0) (tg_Pre D (tw_M D o0 o1 o2 o3 o4 o5 o6 o7 o8 m_text m_size m_at m_begin m_token m_told m_read m_harbour m_now m_undone m_undos m_one m_two m_three m_chalks m_cb m_co m_trace m_kept) [.ref o0]) (tg_Qe (some (.int r)) D (tw_M D o0 o1 o2 o3 o4 o5 o6 o7 o8 m_text m_size m_at m_begin m_token m_told m_read m_harbour q_m_now m_undone q_m_undos m_one m_two m_three m_chalks m_cb m_co m_trace m_kept) (tg_Ad (tw_M D o0 o1 o2 o3 o4 o5 o6 o7 o8 m_text m_size m_at m_begin m_token m_told m_read m_harbour m_now m_undone m_undos m_one m_two m_three m_chalks m_cb m_co m_trace m_kept))) 0 0 (tg_Ad (tw_M D o0 o1 o2 o3 o4 o5 o6 o7 o8 m_text m_size m_at m_begin m_token m_told m_read m_harbour m_now m_undone m_undos m_one m_two m_three m_chalks m_cb m_co m_trace m_kept)) := tg_metEi (by decide) (Nat.le_of_ble_eq_true rfl) (fun X hl0 C V hE => vX5_undo l D o0 o1 o2 o3 o4 o5 o6 o7 o8 m_text m_size m_at m_begin m_token m_told m_read m_harbour m_now m_undone m_undos m_one m_two m_three m_chalks m_cb m_co m_trace m_kept X hl0 C V r q_m_now q_m_undos hs hE)
def fX5_now (m_harbour : Nat → Int32) (m_now : Nat → Int32) (p1 : Int32) : Option (Int32) := if p1 = 0 then (tg_ck p1 27 <| some (m_now (Int32.toNatClampNeg p1))) else (if p1 = 1 then (tg_ck p1 27 <| some (m_now (Int32.toNatClampNeg p1))) else (if p1 = 2 then (tg_ck p1 27 <| some (m_now (Int32.toNatClampNeg p1))) else (if p1 = 3 then (tg_b1 (fX5_isWon m_now) fun rr8 => if rr8 = 0 then (tg_b1 (fX5_open m_harbour m_now) fun rr11 => some rr11) else (some 0)) else (if p1 = 4 then (some (m_now 7)) else (if p1 = 5 then (some ((m_now 3) - (m_now 4))) else (some (-1000000)))))))
set_option maxHeartbeats 2000000 in
set_option maxRecDepth 20000 in
theorem vX5_now (l : Launch) (D : tg_D) (o0 o1 o2 o3 o4 o5 o6 o7 o8 : Nat) (m_text : Nat → Int32) (m_size : Int32) (m_at : Int32) (m_begin : Int32) (m_token : Int32) (m_told : Int32) (m_read : Nat → Int32) (m_harbour : Nat → Int32) (m_now : Nat → Int32) (m_undone : Nat → Int32) (m_undos : Int32) (m_one : Int32) (m_two : Int32) (m_three : Int32) (m_chalks : Int32) (m_cb : Nat → Int32) (m_co : Nat → Int32) (m_trace : Int64) (m_kept : Nat → Int32) (p1 : Int32) (X : tg_X) (hl0 : tg_l X = l) (C : tg_C X D 2 cX5_now RX5 3 64 0 0) (r : Int32) (hs : fX5_now m_harbour m_now p1 = some r) (hE : tg_Ei X D 0 0 cX5_now .int r (tw_M D o0 o1 o2 o3 o4 o5 o6 o7 o8 m_text m_size m_at m_begin m_token m_told m_read m_harbour m_now m_undone m_undos m_one m_two m_three m_chalks m_cb m_co m_trace m_kept)) : tg_G X D 2 0 0 (tw_M D o0 o1 o2 o3 o4 o5 o6 o7 o8 m_text m_size m_at m_begin m_token m_told m_read m_harbour m_now m_undone m_undos m_one m_two m_three m_chalks m_cb m_co m_trace m_kept) [(0, .ref o0), (1, .int p1)] 0 [] := by
  unfold fX5_now at hs
  refine tg_iload_n C dX5_now_0 rfl 1 rfl ?_
  by_cases ss1 : p1 = 0
  · have hs := tg_t ss1 hs
    refine tg_swIn (off := 39) (tgt := 40) C 0 ss1 dX5_now_1 (by decide) (by decide) ?_
    refine tg_aload_n C dX5_now_40 rfl 0 rfl ?_
    refine tg_get (v := .ref o4) C cfX5 0 rfl 8 (by decide) wm_713 rfl dX5_now_41 ?_
    refine tg_iload_n C dX5_now_44 rfl 1 rfl ?_
    obtain ⟨hh2, hs⟩ := tg_ck_e hs
    refine tg_iald C 4 0 rfl rfl hh2 dX5_now_45 ?_
    obtain rfl := Option.some.inj hs
    exact tg_iret hE rfl dX5_now_46
  · have hs := tg_f ss1 hs
    by_cases ss3 : p1 = 1
    · have hs := tg_t ss3 hs
      refine tg_swIn (off := 39) (tgt := 40) C 1 ss3 dX5_now_1 (by decide) (by decide) ?_
      refine tg_aload_n C dX5_now_40 rfl 0 rfl ?_
      refine tg_get (v := .ref o4) C cfX5 0 rfl 8 (by decide) wm_713 rfl dX5_now_41 ?_
      refine tg_iload_n C dX5_now_44 rfl 1 rfl ?_
      obtain ⟨hh4, hs⟩ := tg_ck_e hs
      refine tg_iald C 4 0 rfl rfl hh4 dX5_now_45 ?_
      obtain rfl := Option.some.inj hs
      exact tg_iret hE rfl dX5_now_46
    · have hs := tg_f ss3 hs
      by_cases ss5 : p1 = 2
      · have hs := tg_t ss5 hs
        refine tg_swIn (off := 39) (tgt := 40) C 2 ss5 dX5_now_1 (by decide) (by decide) ?_
        refine tg_aload_n C dX5_now_40 rfl 0 rfl ?_
        refine tg_get (v := .ref o4) C cfX5 0 rfl 8 (by decide) wm_713 rfl dX5_now_41 ?_
        refine tg_iload_n C dX5_now_44 rfl 1 rfl ?_
        obtain ⟨hh6, hs⟩ := tg_ck_e hs
        refine tg_iald C 4 0 rfl rfl hh6 dX5_now_45 ?_
        obtain rfl := Option.some.inj hs
        exact tg_iret hE rfl dX5_now_46
      · have hs := tg_f ss5 hs
        by_cases ss7 : p1 = 3
        · have hs := tg_t ss7 hs
          refine tg_swIn (off := 46) (tgt := 47) C 3 ss7 dX5_now_1 (by decide) (by decide) ?_
          refine tg_aload_n C dX5_now_47 rfl 0 rfl ?_
          obtain ⟨rr8, ee9, hs⟩ := tg_b1_e hs
          refine tg_pVs (As := []) (rest := []) C hl0 (kX5_isWon l D o0 o1 o2 o3 o4 o5 o6 o7 o8 m_text m_size m_at m_begin m_token m_told m_read m_harbour m_now m_undone m_undos m_one m_two m_three m_chalks m_cb m_co m_trace m_kept rr8 ee9) wm_891 meX5_isWon (by decide) rfl rfl rfl rfl (Nat.le_of_ble_eq_true rfl) dX5_now_48 ?_
          refine tg_if_eq (tgt := 58) C dX5_now_51 (by decide) (fun cc10 => ?_) (fun cc10 => ?_)
          · have hs := tg_t cc10 hs
            refine tg_aload_n C dX5_now_58 rfl 0 rfl ?_
            obtain ⟨rr11, ee12, hs⟩ := tg_b1_e hs
            refine tg_pVs (As := []) (rest := []) C hl0 (kX5_open l D o0 o1 o2 o3 o4 o5 o6 o7 o8 m_text m_size m_at m_begin m_token m_told m_read m_harbour m_now m_undone m_undos m_one m_two m_three m_chalks m_cb m_co m_trace m_kept rr11 ee12) wm_902 meX5_open (by decide) rfl rfl rfl rfl (Nat.le_of_ble_eq_true rfl) dX5_now_59 ?_
            obtain rfl := Option.some.inj hs
            exact tg_iret hE rfl dX5_now_62
          · have hs := tg_f cc10 hs
            refine tg_iconst (v := 0) C dX5_now_54 (by decide) ?_
            refine tg_goto (tgt := 62) C dX5_now_55 (by decide) ?_
            obtain rfl := Option.some.inj hs
            exact tg_iret hE rfl dX5_now_62
        · have hs := tg_f ss7 hs
          by_cases ss13 : p1 = 4
          · have hs := tg_t ss13 hs
            refine tg_swIn (off := 62) (tgt := 63) C 4 ss13 dX5_now_1 (by decide) (by decide) ?_
            refine tg_aload_n C dX5_now_63 rfl 0 rfl ?_
            refine tg_get (v := .ref o4) C cfX5 0 rfl 8 (by decide) wm_713 rfl dX5_now_64 ?_
            refine tg_bipush (v := 7) C dX5_now_67 (by decide) ?_
            refine tg_iald C 4 0 rfl rfl (tg_vin (by decide)) dX5_now_69 ?_
            refine tg_topi (y := m_now 7) rfl ?_
            obtain rfl := Option.some.inj hs
            exact tg_iret hE rfl dX5_now_70
          · have hs := tg_f ss13 hs
            by_cases ss14 : p1 = 5
            · have hs := tg_t ss14 hs
              refine tg_swIn (off := 70) (tgt := 71) C 5 ss14 dX5_now_1 (by decide) (by decide) ?_
              refine tg_aload_n C dX5_now_71 rfl 0 rfl ?_
              refine tg_get (v := .ref o4) C cfX5 0 rfl 8 (by decide) wm_713 rfl dX5_now_72 ?_
              refine tg_iconst (v := 3) C dX5_now_75 (by decide) ?_
              refine tg_iald C 4 0 rfl rfl (tg_vin (by decide)) dX5_now_76 ?_
              refine tg_topi (y := m_now 3) rfl ?_
              refine tg_aload_n C dX5_now_77 rfl 0 rfl ?_
              refine tg_get (v := .ref o4) C cfX5 0 rfl 8 (by decide) wm_713 rfl dX5_now_78 ?_
              refine tg_iconst (v := 4) C dX5_now_81 (by decide) ?_
              refine tg_iald C 4 0 rfl rfl (tg_vin (by decide)) dX5_now_82 ?_
              refine tg_topi (y := m_now 4) rfl ?_
              refine tg_isub C dX5_now_83 ?_
              obtain rfl := Option.some.inj hs
              exact tg_iret hE rfl dX5_now_84
            · have hs := tg_f ss14 hs
              refine tg_swOut (tgt := 85) C (by have a0 := lv_neT (a := 0) ss1 rfl; have a1 := lv_neT (a := 1) ss3 rfl; have a2 := lv_neT (a := 2) ss5 rfl; have a3 := lv_neT (a := 3) ss7 rfl; have a4 := lv_neT (a := 4) ss13 rfl; have a5 := lv_neT (a := 5) ss14 rfl; omega) dX5_now_1 (by decide) ?_
              refine tg_ldc C wm_938 dX5_now_85 ?_
              obtain rfl := Option.some.inj hs
              exact tg_iret hE rfl dX5_now_87
set_option maxHeartbeats 2000000 in
set_option maxRecDepth 20000 in
theorem kX5_now (l : Launch) (D : tg_D) (o0 o1 o2 o3 o4 o5 o6 o7 o8 : Nat) (m_text : Nat → Int32) (m_size : Int32) (m_at : Int32) (m_begin : Int32) (m_token : Int32) (m_told : Int32) (m_read : Nat → Int32) (m_harbour : Nat → Int32) (m_now : Nat → Int32) (m_undone : Nat → Int32) (m_undos : Int32) (m_one : Int32) (m_two : Int32) (m_three : Int32) (m_chalks : Int32) (m_cb : Nat → Int32) (m_co : Nat → Int32) (m_trace : Int64) (m_kept : Nat → Int32) (p1 : Int32) (r : Int32) (hs : fX5_now m_harbour m_now p1 = some r) : Met l yX5_now [Cond.code yX5_now cX5_now 2 (some .int)] (tg_rm 3 64) (tg_Pre D (tw_M D o0 o1 o2 o3 o4 o5 o6 o7 o8 m_text m_size m_at m_begin m_token m_told m_read m_harbour m_now m_undone m_undos m_one m_two m_three m_chalks m_cb m_co m_trace m_kept) [.ref o0, .int p1]) (vp_Si (fun r' => r' = r)) 0 0 (fun _ => False) := tg_metI (by decide) (Nat.le_of_ble_eq_true rfl) (fun X hl0 C hE => vX5_now l D o0 o1 o2 o3 o4 o5 o6 o7 o8 m_text m_size m_at m_begin m_token m_told m_read m_harbour m_now m_undone m_undos m_one m_two m_three m_chalks m_cb m_co m_trace m_kept p1 X hl0 C r hs hE)
