/-! which numbers are berths, dice, images, as told -/
theorem q_isBerthC {nb : Nat} (hnb : nb ≤ 18) (p : Int32) : fX4_isBerth (nI nb) p = some (if 1 ≤ p.toInt ∧ p.toInt ≤ (nb : Int) then 1 else 0) := by
  unfold fX4_isBerth
  simp only [lt_toInt, tr_toInt (show nb < 2 ^ 31 by omega), show (1 : Int32).toInt = 1 from rfl]
  by_cases h1 : p.toInt < 1
  · rw [if_pos h1, if_neg (by omega)]
  · rw [if_neg h1]
    by_cases h2 : (nb : Int) < p.toInt
    · rw [if_pos h2, if_neg (by omega)]
    · rw [if_neg h2, if_pos (by omega)]
theorem q_isBerthM {nb : Nat} {h : Nat → Int32} (hnb : nb ≤ 18) (h0 : h 0 = nI nb) (p : Int32) : fX5_isBerth h p = some (if 1 ≤ p.toInt ∧ p.toInt ≤ (nb : Int) then 1 else 0) := by
  unfold fX5_isBerth
  rw [in_iff, b1_some, bz_if, h0, Int32.toInt_toInt64, tr_toInt (by omega), show (1 : Int64).toInt = 1 from rfl]
theorem q_berth {nb : Nat} {p : Int32} (h : 1 ≤ p.toInt ∧ p.toInt ≤ (nb : Int)) : ∃ b, 1 ≤ b ∧ b ≤ nb ∧ p = nI b := by
  obtain ⟨b, h1, h2, -, e⟩ := nI_mid (a := 1) (b := nb) (by omega) h.2
  exact ⟨b, h1, h2, e⟩
theorem q_isDieC (p : Int32) : fX4_isDie p = some (if 0 ≤ p.toInt ∧ p.toInt ≤ 2 then 1 else 0) := by
  unfold fX4_isDie
  simp only [lt_toInt, le_toInt, show (0 : Int32).toInt = 0 from rfl, show (3 : Int32).toInt = 3 from rfl]
  by_cases h1 : p.toInt < 0
  · rw [if_pos h1, if_neg (by omega)]
  · rw [if_neg h1]
    by_cases h2 : 3 ≤ p.toInt
    · rw [if_pos h2, if_neg (by omega)]
    · rw [if_neg h2, if_pos (by omega)]
theorem q_isDieM (p : Int32) : fX5_isDie p = some (if 0 ≤ p.toInt ∧ p.toInt ≤ 2 then 1 else 0) := by
  unfold fX5_isDie
  rw [in_iff, b1_some, bz_if, show (0 : Int64).toInt = 0 from rfl, show (2 : Int64).toInt = 2 from rfl]
theorem q_isImage (p : Int32) : fX4_isImage p = some (if 0 ≤ p.toInt ∧ p.toInt ≤ 1 then 1 else 0) := by
  unfold fX4_isImage
  simp only [lt_toInt, le_toInt, show (0 : Int32).toInt = 0 from rfl, show (2 : Int32).toInt = 2 from rfl]
  by_cases h1 : p.toInt < 0
  · rw [if_pos h1, if_neg (by omega)]
  · rw [if_neg h1]
    by_cases h2 : 2 ≤ p.toInt
    · rw [if_pos h2, if_neg (by omega)]
    · rw [if_neg h2, if_pos (by omega)]
theorem q_ifne {c : Prop} [Decidable c] {α : Type} (x y : α) : (if ¬ (if c then (1 : Int32) else 0) = 0 then x else y) = if c then x else y := by
  by_cases h : c
  · rw [if_pos h, if_pos h]; rfl
  · rw [if_neg h, if_neg h]; rfl
theorem q_ifeq {c : Prop} [Decidable c] {α : Type} (x y : α) : (if (if c then (1 : Int32) else 0) = 0 then x else y) = if c then y else x := by
  by_cases h : c
  · rw [if_pos h, if_pos h]; rfl
  · rw [if_neg h, if_neg h]; rfl
theorem s_type : sm_type tr_R := by
  intro x_text x_typed t_pips t_many t_berths t_goal r_fault r_length r_kind r_start r_next r_number r_dice r_bt r_gt d_pips d_many d_berths d_goal a_shown a_calm a_windy a_turns a_many a_ever c_at c_past c_known i_at i_past i_known j_at j_past j_known x_kept x_cb x_ct x_chalked x_traced m_text m_size m_at m_begin m_token m_told m_read m_harbour m_now m_undone m_undos m_one m_two m_three m_chalks m_cb m_co m_trace m_kept p1 hR
  have hR' := hR
  obtain ⟨nb, g, k, pp, H, A, U, I0, I1, Ck, ⟨c, hc, e1, e2, hx⟩, tr⟩ := hR'
  unfold fX4_type fX5_type
  rw [in_iff, b1_some, q_ifne, show (0 : Int64).toInt = 0 from rfl, show (255 : Int64).toInt = 255 from rfl]
  simp only [lt_toInt, le_toInt, show (0 : Int32).toInt = 0 from rfl, show (255 : Int32).toInt = 255 from rfl]
  by_cases hr : 0 ≤ p1.toInt ∧ p1.toInt ≤ 255
  · rw [if_neg (by omega : ¬ p1.toInt < 0), if_pos hr.2, if_pos hr]
    obtain ⟨v, -, hv, hv2, ev⟩ := nI_mid (a := 0) (b := 255) (by omega) (by omega : p1.toInt ≤ ((255 : Nat) : Int))
    by_cases hf : c = 120
    · refine ⟨-3, x_text, x_typed, m_text, m_size, ?_, ?_, hR⟩
      · rw [e1, hf, if_neg (by decide)]
      · rw [e2, hf, if_neg (fun q => q rfl)]
    · have hlt : c < 120 := by omega
      have hch : vp_nar .char (Int32.toUInt32 p1 % 65536).toInt32 = p1 := by
        rw [pk_vc, ev]; exact (pk_char (nI v)).trans (by rw [pk_tn (by omega), Nat.mod_eq_of_lt (by omega)])
      have hlt2 : x_typed.toInt < (120 : Int32).toInt := by rw [e1, tr_toInt (by omega), show (120 : Int32).toInt = 120 from rfl]; omega
      have hne : ¬ m_size = 120 := by rw [e2]; exact fun q => hf ((nI_eq (by omega) (by decide)).mp q)
      rw [if_pos hlt2, if_pos hne]
      simp only [nm_is]
      rw [e1, e2, ck_nI hlt (by decide), ck_nI hlt (by decide), cl_nI (by omega), nI_1, hch]
      refine ⟨nI (c + 1), _, _, _, _, rfl, rfl, nb, g, k, pp, H, A, U, I0, I1, Ck, ⟨c + 1, by omega, rfl, rfl, fun j hj => ?_⟩, tr⟩
      by_cases e : j = c
      · subst e
        rw [pk_us, pk_us]
        exact ⟨v, by omega, ev, ev⟩
      · rw [pk_un e, pk_un e]
        exact hx j (by omega)
  · refine ⟨-1, x_text, x_typed, m_text, m_size, ?_, ?_, hR⟩
    · by_cases h1 : p1.toInt < 0
      · rw [if_pos h1]
      · rw [if_neg h1, if_neg (by omega)]
    · rw [if_neg hr]
theorem s_die : sm_die tr_R := by
  intro x_text x_typed t_pips t_many t_berths t_goal r_fault r_length r_kind r_start r_next r_number r_dice r_bt r_gt d_pips d_many d_berths d_goal a_shown a_calm a_windy a_turns a_many a_ever c_at c_past c_known i_at i_past i_known j_at j_past j_known x_kept x_cb x_ct x_chalked x_traced m_text m_size m_at m_begin m_token m_told m_read m_harbour m_now m_undone m_undos m_one m_two m_three m_chalks m_cb m_co m_trace m_kept p1 p2 hR
  have hR' := hR
  obtain ⟨nb, g, k, pp, H, A, U, I0, I1, Ck, X, tr⟩ := hR'
  unfold fX4_die fX5_die
  rw [q_isDieC, b1_some, q_ifeq, q_isDieM, b1_some, q_ifeq]
  by_cases hd : 0 ≤ p1.toInt ∧ p1.toInt ≤ 2
  · rw [if_pos hd, if_pos hd]
    obtain ⟨d, -, hd3, -, rfl⟩ := nI_mid (x := p1) (a := 0) (b := 2) (by omega) (by omega)
    have hk := tr_k H (d := d) (by omega)
    rw [tr_faces H (by omega), b1_some, in_iff, b1_some, q_ifne, Int32.toInt_toInt64, ck_nI (show d < 3 by omega) (by decide), cl_nI (by omega), (H.2.1 d (by omega)).2.1]
    rw [show nI (k d) - 1 = nI (k d - 1) from pk_sub hk.1, tr_toInt (by omega), show (-1 : Int64).toInt = -1 from rfl]
    simp only [lt_toInt, le_toInt, show (0 : Int32).toInt = 0 from rfl, show (-1 : Int32).toInt = -1 from rfl, tr_toInt (show k d < 2 ^ 31 by omega)]
    by_cases h1 : p2.toInt < -1
    · exact ⟨-1, by rw [if_pos h1], by rw [if_neg (by omega)], hR⟩
    · rw [if_neg h1]
      by_cases h2 : p2.toInt < (k d : Int)
      · rw [if_pos h2, if_pos (show -1 ≤ p2.toInt ∧ p2.toInt ≤ ((k d - 1 : Nat) : Int) by omega)]
        by_cases h3 : p2 = -1
        · have h4 : p2.toInt = -1 := by rw [h3]; rfl
          exact ⟨nI (k d), by rw [if_neg (fun q => q h3), ck_nI (by omega) (by decide)], by rw [if_neg (show ¬ 0 ≤ p2.toInt by omega), b1_some], hR⟩
        · have h4 : 0 ≤ p2.toInt := by
            have : p2.toInt ≠ -1 := fun q => h3 (Int32.toInt_inj.mp q)
            omega
          obtain ⟨i, -, hi, hi2, rfl⟩ := nI_mid (x := p2) (a := 0) (b := k d) (by omega) (by omega)
          rw [tr_toInt hi2] at h2
          exact ⟨nI (pp d i), by rw [if_pos h3, tr_pip H (by omega) (by omega), b1_some], by rw [if_pos h4, tr_face H (by omega) (by omega), b1_some], hR⟩
      · exact ⟨-1, by rw [if_neg h2], by rw [if_neg (by omega)], hR⟩
  · exact ⟨-1, by rw [if_neg hd], by rw [if_neg hd], hR⟩
theorem q_owner {nb g : Nat} {at_ now : Nat → Int32} (R : tr_1 nb g at_ now) {b : Nat} (h1 : 1 ≤ b) (h2 : b ≤ nb) (hnb : nb ≤ 18) : fX1_owner at_ (nI b) = some (now (8 + b)) := by
  unfold fX1_owner
  rw [show (400 : Nat) = 397 + 1 + 1 + 1 from rfl, fX1_owner_L2, if_neg (by decide), show fX1_berthsOf at_ 0 = _ from r1_berthsOf (q := 0) (by decide), b1_some, tr_hasBit _ (by omega), b1_some, R.1 0 (by decide) b (by omega)]
  by_cases e0 : now (8 + b) = nI 0
  · rw [decide_eq_true ⟨h1, h2, e0⟩, if_neg (by decide), e0]; rfl
  · rw [decide_eq_false (fun z => e0 z.2.2), if_pos (by rfl), nm_is, fX1_owner_L2, if_neg (by decide), show fX1_berthsOf at_ (0 + 1) = _ from r1_berthsOf (q := 1) (by decide), b1_some, tr_hasBit _ (by omega), b1_some, R.1 1 (by decide) b (by omega)]
    by_cases e1 : now (8 + b) = nI 1
    · rw [decide_eq_true ⟨h1, h2, e1⟩, if_neg (by decide), e1]; rfl
    · rw [decide_eq_false (fun z => e1 z.2.2), if_pos (by rfl), nm_is, fX1_owner_L2, if_pos (by decide)]
      rcases R.2.1 b h1 h2 with q | q | q
      · rw [q]
      · exact absurd q e0
      · exact absurd q e1
theorem s_berth : sm_berth tr_R := by
  intro x_text x_typed t_pips t_many t_berths t_goal r_fault r_length r_kind r_start r_next r_number r_dice r_bt r_gt d_pips d_many d_berths d_goal a_shown a_calm a_windy a_turns a_many a_ever c_at c_past c_known i_at i_past i_known j_at j_past j_known x_kept x_cb x_ct x_chalked x_traced m_text m_size m_at m_begin m_token m_told m_read m_harbour m_now m_undone m_undos m_one m_two m_three m_chalks m_cb m_co m_trace m_kept p1 hR
  have hR' := hR
  obtain ⟨nb, g, k, pp, H, A, U, I0, I1, Ck, X, tr⟩ := hR'
  have hnb := H.1.2.1
  have hg9 := H.1.2.2.2
  have hh0 := H.2.2.2.2.1
  have hh1 := H.2.2.2.2.2
  obtain rfl := H.2.2.1
  obtain rfl := H.2.2.2.1
  obtain rfl := A.1
  unfold fX4_berth fX5_berth
  rw [q_isBerthC hnb, b1_some, q_ifeq, q_isBerthM hnb hh0, b1_some, q_ifeq]
  by_cases hb : 1 ≤ p1.toInt ∧ p1.toInt ≤ (nb : Int)
  · obtain ⟨b, b1, b2, rfl⟩ := q_berth hb
    refine ⟨m_now (8 + b), ?_, ?_, hR⟩
    · rw [if_pos hb, q_owner U.1 b1 b2 hnb, b1_some]
    · rw [if_pos hb, show (8 : Int32) = nI 8 from rfl, nI_add, ck_nI (by omega) (by decide), cl_nI (by omega)]
  · exact ⟨-1, by rw [if_neg hb], by rw [if_neg hb], hR⟩
theorem s_chalks : sm_chalks tr_R := by
  intro x_text x_typed t_pips t_many t_berths t_goal r_fault r_length r_kind r_start r_next r_number r_dice r_bt r_gt d_pips d_many d_berths d_goal a_shown a_calm a_windy a_turns a_many a_ever c_at c_past c_known i_at i_past i_known j_at j_past j_known x_kept x_cb x_ct x_chalked x_traced m_text m_size m_at m_begin m_token m_told m_read m_harbour m_now m_undone m_undos m_one m_two m_three m_chalks m_cb m_co m_trace m_kept p1 p2 hR
  have hR' := hR
  obtain ⟨nb, g, k, pp, H, A, U, I0, I1, Ck, X, tr⟩ := hR'
  have hnb := H.1.2.1
  have hg9 := H.1.2.2.2
  have hh0 := H.2.2.2.2.1
  have hh1 := H.2.2.2.2.2
  obtain rfl := H.2.2.1
  obtain rfl := H.2.2.2.1
  obtain rfl := A.1
  have Ck' := Ck
  obtain ⟨c, hc, e1, e2, hx⟩ := Ck'
  unfold fX4_chalks fX5_chalks
  rw [q_isBerthC hnb, b1_some, q_ifeq, q_isBerthM hnb hh0, b1_some, q_ifeq, in_iff, b1_some, q_ifne, show (0 : Int64).toInt = 0 from rfl, show (216 : Int64).toInt = 216 from rfl]
  simp only [lt_toInt, le_toInt, show (0 : Int32).toInt = 0 from rfl, show (216 : Int32).toInt = 216 from rfl]
  by_cases hb : 1 ≤ p1.toInt ∧ p1.toInt ≤ (nb : Int)
  · obtain ⟨b, b1, b2, eb⟩ := q_berth hb
    rw [if_pos hb, if_pos hb]
    by_cases hr : 0 ≤ p2.toInt ∧ p2.toInt ≤ 216
    · obtain ⟨v, -, hv, hv2, ev⟩ := nI_mid (x := p2) (a := 0) (b := 216) (by omega) (by omega)
      rw [if_neg (by omega : ¬ p2.toInt < 0), if_pos hr.2, if_pos hr]
      by_cases hf : c = 6
      · refine ⟨-3, x_cb, x_ct, x_chalked, m_chalks, m_cb, m_co, ?_, ?_, hR⟩
        · rw [e1, hf, if_neg (by decide)]
        · rw [e2, hf, if_neg (fun q => q rfl)]
      · have hlt : c < 6 := by omega
        have hlt2 : x_chalked.toInt < (6 : Int32).toInt := by rw [e1, tr_toInt (by omega), show (6 : Int32).toInt = 6 from rfl]; omega
        have hne : ¬ m_chalks = 6 := by rw [e2]; exact fun q => hf ((nI_eq (by omega) (by decide)).mp q)
        rw [if_pos hlt2, if_pos hne]
        simp only [nm_is]
        simp only [e1, e2, ck_nI hlt (by decide : 6 < 2 ^ 31), cl_nI (show c < 2 ^ 31 by omega), nI_1]
        refine ⟨nI (c + 1), _, _, _, _, _, _, rfl, rfl, nb, g, k, pp, H, A, U, I0, I1, ⟨c + 1, by omega, rfl, rfl, fun j hj => ?_⟩, X, tr⟩
        by_cases e : j = c
        · subst e
          rw [pk_us, pk_us, pk_us, pk_us]
          exact ⟨rfl, rfl, ⟨b, b1, b2, eb⟩, v, hv, ev⟩
        · rw [pk_un e, pk_un e, pk_un e, pk_un e]
          exact hx j (by omega)
    · refine ⟨-1, x_cb, x_ct, x_chalked, m_chalks, m_cb, m_co, ?_, ?_, hR⟩
      · by_cases h1 : p2.toInt < 0
        · rw [if_pos h1]
        · rw [if_neg h1, if_neg (by omega)]
      · rw [if_neg hr]
  · exact ⟨-1, x_cb, x_ct, x_chalked, m_chalks, m_cb, m_co, by rw [if_neg hb], by rw [if_neg hb], hR⟩
