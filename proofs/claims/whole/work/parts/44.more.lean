/-! threw, chalk, kinds, third, wise, cheap -/
theorem s_threw : sm_threw tr_R := by
  intro x_text x_typed t_pips t_many t_berths t_goal r_fault r_length r_kind r_start r_next r_number r_dice r_bt r_gt d_pips d_many d_berths d_goal a_shown a_calm a_windy a_turns a_many a_ever c_at c_past c_known i_at i_past i_known j_at j_past j_known x_kept x_cb x_ct x_chalked x_traced m_text m_size m_at m_begin m_token m_told m_read m_harbour m_now m_undone m_undos m_one m_two m_three m_chalks m_cb m_co m_trace m_kept p1 p2 hR
  have hR' := hR
  obtain ⟨nb, g, k, pp, H, A, U, I0, I1, Ck, X, tr⟩ := hR'
  have hnb := H.1.2.1
  have hg9 := H.1.2.2.2
  have hh0 := H.2.2.2.2.1
  have hh1 := H.2.2.2.2.2
  obtain rfl := H.2.2.1
  obtain rfl := H.2.2.2.1
  obtain rfl := A.1
  have hN := tr_N_le H
  obtain ⟨w, hw, w1, w2⟩ := U.1.2.2.2.2.1
  unfold fX4_threw fX5_threw
  rw [q_isBerthC hnb, b1_some, q_ifeq, q_isBerthM hnb hh0, b1_some, q_ifeq, tr_isPart, b1_some, q_ifne, tr_in01, b1_some, q_ifne]
  by_cases hb : 1 ≤ p1.toInt ∧ p1.toInt ≤ (nb : Int)
  · obtain ⟨b, b1, b2, rfl⟩ := q_berth hb
    rw [if_pos hb, if_pos hb]
    by_cases hp : p2 = 0 ∨ p2 = 1
    · obtain ⟨q1, q2, q3, e⟩ := tr_threwL H hw (show b < 32 by omega) w2 400 0 m_one m_two m_three (-9) (by omega) (by omega)
      have e' : fX5_threw_L29 m_harbour m_now (nI b) 400 m_one m_two m_three 0 (-9) 0 = _ := e
      rw [if_pos hp, if_pos hp, e']
      unfold fX1_wind
      have z0 : tr_st nb k pp w b 0 = 0 := rfl
      rw [if_pos z0, Nat.sub_zero]
      rcases hp with rfl | rfl
      · refine ⟨nI (tr_st nb k pp w b (tr_N k)), q1, q2, q3, ?_, rfl, hR⟩
        rw [if_neg (fun q => q rfl), b1_some, w1, tr_stillN H A hw (by omega), b1_some]
      · refine ⟨tr_fst nb k pp w b (tr_N k) 0, q1, q2, q3, ?_, ?_, hR⟩
        · rw [if_pos (by decide), b1_some, w1, tr_first H A hw (by omega), b1_some]
        · have hf : (if tr_st nb k pp w b (tr_N k) = 0 then (-9 : Int32) else tr_fst nb k pp w b (tr_N k) 0) = tr_fst nb k pp w b (tr_N k) 0 := by
            by_cases z : tr_st nb k pp w b (tr_N k) = 0
            · rw [if_pos z]
              have hz := fb_ct_zero.mp z
              have : ∀ (m t : Nat), t + m = tr_N k → tr_fst nb k pp w b m t = -9 := by
                intro m
                induction m with
                | zero => intro t _; rfl
                | succ m ih =>
                  intro t ht
                  rw [tr_fst, hz t (by omega), if_neg (by decide)]
                  exact ih (t + 1) (by omega)
              exact (this (tr_N k) 0 (by omega)).symm
            · rw [if_neg z]
          rw [hf]; rfl
    · exact ⟨-1, m_one, m_two, m_three, by rw [if_neg hp], by rw [if_neg hp], hR⟩
  · exact ⟨-1, m_one, m_two, m_three, by rw [if_neg hb], by rw [if_neg hb], hR⟩
section TRM
variable {nb g : Nat} {k : Nat → Nat} {pp : Nat → Nat → Nat} {t_pips t_many : Nat → Int32} {t_berths t_goal : Int32} {h at_ now : Nat → Int32} {s ca wi tu : Nat → Int32} {many ever : Int32} {cb ct mb mo : Nat → Int32} {c : Nat}
/-- how far a chalked number is off, alike -/
theorem q_off (H : tr_H nb g k pp t_pips t_many t_berths t_goal h) (A : tr_A nb k pp s ca wi tu many ever) (R : tr_1 nb g at_ now) (hc : c ≤ 6) (hx : ∀ j, j < c → cb j = mb j ∧ ct j = mo j ∧ (∃ b, 1 ≤ b ∧ b ≤ nb ∧ mb j = nI b) ∧ ∃ v, v ≤ 216 ∧ mo j = nI v) {j : Nat} (hj : j < c) : ∃ z, fX4_offOf ca wi tu many at_ cb ct (nI j) = some z ∧ ∀ o1 o2 o3, ∃ q1 q2 q3, fX5_offOf h now o1 o2 o3 mb mo (nI j) = some (z, q1, q2, q3) := by
  obtain ⟨e1, e2, ⟨b, b1, b2, e3⟩, -⟩ := hx j hj
  obtain ⟨n, -, f1, f2⟩ := q_ch H A R b1 b2
  refine ⟨mo j * nI (tr_N k) - 216 * nI n, ?_, fun o1 o2 o3 => ?_⟩
  · unfold fX4_offOf
    rw [ck_nI (by omega) (by decide), ck_nI (by omega) (by decide), cl_nI (by omega), e1, e2, e3, f1, b1_some, A.1]
  · obtain ⟨q1, q2, q3, f3⟩ := f2 o1 o2 o3
    unfold fX5_offOf
    refine ⟨q1, q2, q3, ?_⟩
    rw [ck_nI (by omega) (by decide), tr_throwsOf H, b1_some, ck_nI (by omega) (by decide), cl_nI (by omega), e3, f3, b4_some]
theorem q_wrongL (H : tr_H nb g k pp t_pips t_many t_berths t_goal h) (A : tr_A nb k pp s ca wi tu many ever) (R : tr_1 nb g at_ now) (hc : c ≤ 6) (hx : ∀ j, j < c → cb j = mb j ∧ ct j = mo j ∧ (∃ b, 1 ≤ b ∧ b ≤ nb ∧ mb j = nI b) ∧ ∃ v, v ≤ 216 ∧ mo j = nI v) : ∀ (m j : Nat) (acc o1 o2 o3 : Int32), j ≤ c → c + 1 ≤ j + m → ∃ x q1 q2 q3, fX4_wrong_L4 ca wi tu many at_ cb ct (nI c) m acc (nI j) = some (x, nI c) ∧ fX5_wrong_L4 h now (nI c) mb mo m o1 o2 o3 acc (nI j) = some (q1, q2, q3, x, nI c)
  | 0, j, acc, o1, o2, o3, h1, h2 => by omega
  | m + 1, j, acc, o1, o2, o3, h1, h2 => by
    rw [fX4_wrong_L4, fX5_wrong_L4]
    by_cases hz : c ≤ j
    · have e : j = c := by omega
      subst e
      rw [if_pos (nI_le (Nat.le_refl _) (by omega)), if_pos (nI_le (Nat.le_refl _) (by omega))]
      exact ⟨acc, o1, o2, o3, rfl, rfl⟩
    · have hlt : j < c := by omega
      obtain ⟨z, z1, z2⟩ := q_off H A R hc hx hlt
      obtain ⟨u1, u2, u3, z3⟩ := z2 o1 o2 o3
      rw [if_neg (nI_ge hlt (by omega)), if_neg (nI_ge hlt (by omega)), z1, b1_some, z3, b4_some]
      unfold fX4_bit
      by_cases q : z = 0
      · rw [if_pos q, if_pos q, b1_some, b1_some, nm_is, nm_is, nm_is, nI_1]
        have : acc ||| 0 = acc := b_ext (fun i _ => by rw [b_or, b_0, Bool.or_false])
        rw [this]
        exact q_wrongL H A R hc hx m (j + 1) acc u1 u2 u3 (by omega) (by omega)
      · rw [if_neg q, if_neg q, b1_some, nm_is, b1_some, b1_some, nm_is, nm_is, nm_is, nI_1]
        exact q_wrongL H A R hc hx m (j + 1) _ u1 u2 u3 (by omega) (by omega)
theorem q_betL (H : tr_H nb g k pp t_pips t_many t_berths t_goal h) (A : tr_A nb k pp s ca wi tu many ever) (R : tr_1 nb g at_ now) (hc : c ≤ 6) (hx : ∀ j, j < c → cb j = mb j ∧ ct j = mo j ∧ (∃ b, 1 ≤ b ∧ b ≤ nb ∧ mb j = nI b) ∧ ∃ v, v ≤ 216 ∧ mo j = nI v) : ∀ (m j : Nat) (f1 f2 o1 o2 o3 : Int32), j ≤ c → c + 1 ≤ j + m → ∃ x y q1 q2 q3, fX4_bet_L7 ca wi tu many at_ cb ct (nI c) m f1 f2 (nI j) = some (x, y, nI c) ∧ fX5_bet_L7 h now (nI c) mb mo m o1 o2 o3 f1 f2 (nI j) = some (q1, q2, q3, x, y, nI c)
  | 0, j, f1, f2, o1, o2, o3, h1, h2 => by omega
  | m + 1, j, f1, f2, o1, o2, o3, h1, h2 => by
    rw [fX4_bet_L7, fX5_bet_L7]
    by_cases hz : c ≤ j
    · have e : j = c := by omega
      subst e
      rw [if_pos (nI_le (Nat.le_refl _) (by omega)), if_pos (nI_le (Nat.le_refl _) (by omega))]
      exact ⟨f1, f2, o1, o2, o3, rfl, rfl⟩
    · have hlt : j < c := by omega
      obtain ⟨z, z1, z2⟩ := q_off H A R hc hx hlt
      obtain ⟨u1, u2, u3, z3⟩ := z2 o1 o2 o3
      obtain ⟨y1, y2, y3, z4⟩ := z2 u1 u2 u3
      rw [if_neg (nI_ge hlt (by omega)), if_neg (nI_ge hlt (by omega)), z1, b1_some, z3, b4_some, nm_is, z4, b4_some, b4_some]
      have hz : (if 0 ≤ z then some (y1, y2, y3, z) else some (y1, y2, y3, -z)) = some (y1, y2, y3, (if 0 ≤ z then z else 0 - z)) := by
        split
        · rfl
        · rw [Int32.zero_sub]
      rw [hz, b4_some]
      by_cases q : (if 0 ≤ z then z else 0 - z) ≤ f2
      · rw [if_pos q, if_pos q, if_pos q, b2_some, b1_some, b1_some, nm_is, nm_is, nI_1]
        exact q_betL H A R hc hx m (j + 1) f1 f2 y1 y2 y3 (by omega) (by omega)
      · rw [if_neg q, if_neg q, if_neg q, b2_some, b1_some, b1_some, nm_is, nm_is, nI_1]
        exact q_betL H A R hc hx m (j + 1) _ _ y1 y2 y3 (by omega) (by omega)
end TRM
theorem s_wrong : sm_wrong tr_R := by
  intro x_text x_typed t_pips t_many t_berths t_goal r_fault r_length r_kind r_start r_next r_number r_dice r_bt r_gt d_pips d_many d_berths d_goal a_shown a_calm a_windy a_turns a_many a_ever c_at c_past c_known i_at i_past i_known j_at j_past j_known x_kept x_cb x_ct x_chalked x_traced m_text m_size m_at m_begin m_token m_told m_read m_harbour m_now m_undone m_undos m_one m_two m_three m_chalks m_cb m_co m_trace m_kept hR
  have hR' := hR
  obtain ⟨nb, g, k, pp, H, A, U, I0, I1, Ck, X, tr⟩ := hR'
  have hnb := H.1.2.1
  have hg9 := H.1.2.2.2
  have hh0 := H.2.2.2.2.1
  have hh1 := H.2.2.2.2.2
  obtain rfl := H.2.2.1
  obtain rfl := H.2.2.2.1
  obtain rfl := A.1
  have Ck' := Ck
  obtain ⟨c, hc, e1, e2, hx⟩ := Ck'
  subst e1; subst e2
  obtain ⟨x, q1, q2, q3, f1, f2⟩ := q_wrongL H A U.1 hc hx 400 0 0 m_one m_two m_three (by omega) (by omega)
  refine ⟨x, q1, q2, q3, ?_, ?_, hR⟩
  · unfold fX4_wrong; exact (congrArg (fun o => tg_b2 o _) f1).trans rfl
  · unfold fX5_wrong; exact (congrArg (fun o => tg_b5 o _) f2).trans rfl
theorem s_bet : sm_bet tr_R := by
  intro x_text x_typed t_pips t_many t_berths t_goal r_fault r_length r_kind r_start r_next r_number r_dice r_bt r_gt d_pips d_many d_berths d_goal a_shown a_calm a_windy a_turns a_many a_ever c_at c_past c_known i_at i_past i_known j_at j_past j_known x_kept x_cb x_ct x_chalked x_traced m_text m_size m_at m_begin m_token m_told m_read m_harbour m_now m_undone m_undos m_one m_two m_three m_chalks m_cb m_co m_trace m_kept hR
  have hR' := hR
  obtain ⟨nb, g, k, pp, H, A, U, I0, I1, Ck, X, tr⟩ := hR'
  have hnb := H.1.2.1
  have hg9 := H.1.2.2.2
  have hh0 := H.2.2.2.2.1
  have hh1 := H.2.2.2.2.2
  obtain rfl := H.2.2.1
  obtain rfl := H.2.2.2.1
  obtain rfl := A.1
  have Ck' := Ck
  obtain ⟨c, hc, e1, e2, hx⟩ := Ck'
  subst e1; subst e2
  obtain ⟨x, y, q1, q2, q3, f1, f2⟩ := q_betL H A U.1 hc hx 400 0 (-9) 0 m_one m_two m_three (by omega) (by omega)
  refine ⟨x, q1, q2, q3, ?_, ?_, hR⟩
  · unfold fX4_bet; exact (congrArg (fun o => tg_b3 o _) f1).trans rfl
  · unfold fX5_bet; exact (congrArg (fun o => tg_b6 o _) f2).trans rfl
theorem s_off : sm_off tr_R := by
  intro x_text x_typed t_pips t_many t_berths t_goal r_fault r_length r_kind r_start r_next r_number r_dice r_bt r_gt d_pips d_many d_berths d_goal a_shown a_calm a_windy a_turns a_many a_ever c_at c_past c_known i_at i_past i_known j_at j_past j_known x_kept x_cb x_ct x_chalked x_traced m_text m_size m_at m_begin m_token m_told m_read m_harbour m_now m_undone m_undos m_one m_two m_three m_chalks m_cb m_co m_trace m_kept p1 hR
  have hR' := hR
  obtain ⟨nb, g, k, pp, H, A, U, I0, I1, Ck, X, tr⟩ := hR'
  have hnb := H.1.2.1
  have hg9 := H.1.2.2.2
  have hh0 := H.2.2.2.2.1
  have hh1 := H.2.2.2.2.2
  obtain rfl := H.2.2.1
  obtain rfl := H.2.2.2.1
  obtain rfl := A.1
  have Ck' := Ck
  obtain ⟨c, hc, e1, e2, hx⟩ := Ck'
  subst e1; subst e2
  unfold fX4_off fX5_off
  have hci : (nI c - 1).toInt = (c : Int) - 1 := pk_sub_toInt (a := c) (b := 1) (by omega) (by omega)
  rw [in_iff, b1_some, q_ifeq, Int32.toInt_toInt64, hci, show (0 : Int64).toInt = 0 from rfl]
  simp only [lt_toInt, show (0 : Int32).toInt = 0 from rfl, tr_toInt (show c < 2 ^ 31 by omega)]
  by_cases hq : 0 ≤ p1.toInt ∧ p1.toInt ≤ (c : Int) - 1
  · obtain ⟨j, -, hj, hj2, rfl⟩ := nI_mid (x := p1) (a := 0) (b := c) (by omega) (by omega)
    have ht := tr_toInt hj2
    obtain ⟨z, z1, z2⟩ := q_off H A U.1 hc hx (show j < c by omega)
    obtain ⟨u1, u2, u3, z3⟩ := z2 m_one m_two m_three
    refine ⟨z, u1, u2, u3, ?_, ?_, hR⟩
    · rw [if_neg (by omega), if_pos (by omega), z1, b1_some]
    · rw [if_pos hq, z3, b4_some]
  · refine ⟨-1000000, m_one, m_two, m_three, ?_, by rw [if_neg hq], hR⟩
    by_cases h1 : p1.toInt < 0
    · rw [if_pos h1]
    · rw [if_neg h1, if_neg (by omega)]
theorem s_mark : sm_mark tr_R := by
  intro x_text x_typed t_pips t_many t_berths t_goal r_fault r_length r_kind r_start r_next r_number r_dice r_bt r_gt d_pips d_many d_berths d_goal a_shown a_calm a_windy a_turns a_many a_ever c_at c_past c_known i_at i_past i_known j_at j_past j_known x_kept x_cb x_ct x_chalked x_traced m_text m_size m_at m_begin m_token m_told m_read m_harbour m_now m_undone m_undos m_one m_two m_three m_chalks m_cb m_co m_trace m_kept p1 p2 hR
  have hR' := hR
  obtain ⟨nb, g, k, pp, H, A, U, I0, I1, Ck, X, tr⟩ := hR'
  have hnb := H.1.2.1
  have hg9 := H.1.2.2.2
  have hh0 := H.2.2.2.2.1
  have hh1 := H.2.2.2.2.2
  obtain rfl := H.2.2.1
  obtain rfl := H.2.2.2.1
  obtain rfl := A.1
  obtain ⟨w, hw, w1, w2⟩ := U.1.2.2.2.2.1
  obtain ⟨v0, -, t0, t0'⟩ := U.1.2.2.1 0 (by decide)
  obtain ⟨v1, -, t1, t1'⟩ := U.1.2.2.1 1 (by decide)
  subst tr
  unfold fX4_mark fX5_mark
  rw [q_isBerthC hnb, b1_some, q_ifne, in_iff, b1_some, q_ifeq, q_isBerthM hnb hh0, b1_some, q_ifne, show (0 : Int64).toInt = 0 from rfl, show (5 : Int64).toInt = 5 from rfl]
  have mkR : ∀ z : Int64, tr_R x_text x_typed t_pips t_many (nI nb) (nI g) a_shown a_calm a_windy a_turns (nI (tr_N k)) a_ever c_at c_past c_known i_at i_past i_known j_at j_past j_known x_kept x_cb x_ct x_chalked z m_text m_size m_harbour m_now m_undone m_undos m_chalks m_cb m_co z m_kept := fun z => ⟨nb, g, k, pp, H, A, U, I0, I1, Ck, X, rfl⟩
  by_cases hb : 1 ≤ p2.toInt ∧ p2.toInt ≤ (nb : Int)
  · obtain ⟨b, b1, b2, rfl⟩ := q_berth hb
    obtain ⟨n, -, f1, f2⟩ := q_ch H A U.1 b1 b2
    obtain ⟨q1, q2, q3, f3⟩ := f2 m_one m_two m_three
    rw [if_pos hb, if_pos hb]
    unfold fX4_coalMark fX4_lentMark fX4_pilotMark
    unfold fX4_shipMark fX4_quayMark
    unfold fX4_berthMark fX1_wind
    simp only [nm_is, b2_some, f1, f3, b1_some, b4_some, r1_owned, bc_PC, r1_taken U.1 hh0 hnb, many_PC, show fX1_tidesOf c_at 0 = _ from r1_tidesOf (q := 0) (by decide), show fX1_tidesOf c_at 1 = _ from r1_tidesOf (q := 1) (by decide), w1, w2, t0, t1]
    by_cases s0 : p1 = 0
    · subst s0
      exact ⟨_, _, m_one, m_two, m_three, _, rfl, rfl, mkR _⟩
    by_cases s1 : p1 = 1
    · subst s1
      refine ⟨_, _, q1, q2, q3, _, rfl, ?_, mkR _⟩
      show some (_, _, _, _, x_traced + 11) = _
      rw [show x_traced + 10 + 1 = x_traced + 11 by rw [Int64.add_assoc]; rfl]
    by_cases s2 : p1 = 2
    · subst s2
      refine ⟨_, _, m_one, m_two, m_three, _, rfl, ?_, mkR _⟩
      show some (_, _, _, _, x_traced + 101) = _
      rw [show x_traced + 100 + 1 = x_traced + 101 by rw [Int64.add_assoc]; rfl]
    by_cases s3 : p1 = 3
    · subst s3
      refine ⟨_, _, q1, q2, q3, _, rfl, ?_, mkR _⟩
      show some (2 * (nI b + nI n), _, _, _, x_traced + 1011) = _
      rw [show x_traced + 1000 + 10 + 1 = x_traced + 1011 by rw [Int64.add_assoc, Int64.add_assoc]; rfl, Int32.mul_comm]
    by_cases s4 : p1 = 4
    · subst s4
      refine ⟨_, _, m_one, m_two, m_three, _, rfl, ?_, mkR _⟩
      show some (nI b - nI (PC (c_at 0 ||| c_at 1)) + 7 * nI w, _, _, _, x_traced + 10101) = _
      rw [show x_traced + 10000 + 100 + 1 = x_traced + 10101 by rw [Int64.add_assoc, Int64.add_assoc]; rfl, Int32.mul_comm]
    by_cases s5 : p1 = 5
    · subst s5
      refine ⟨_, _, m_one, m_two, m_three, _, rfl, ?_, mkR _⟩
      show some (nI b + m_now 3 + m_now 4, _, _, _, x_traced + 100001) = _
      rw [show x_traced + 100000 + 1 = x_traced + 100001 by rw [Int64.add_assoc]; rfl, show m_now 3 = _ from t0', show m_now 4 = _ from t1']
    have hout : ¬ (0 ≤ p1.toInt ∧ p1.toInt ≤ 5) := fun z => by
      obtain ⟨n, -, hn, -, rfl⟩ := nI_mid (x := p1) (a := 0) (b := 5) (by omega) (by omega)
      rcases (show n = 0 ∨ n = 1 ∨ n = 2 ∨ n = 3 ∨ n = 4 ∨ n = 5 by omega) with rfl | rfl | rfl | rfl | rfl | rfl
      · exact s0 rfl
      · exact s1 rfl
      · exact s2 rfl
      · exact s3 rfl
      · exact s4 rfl
      · exact s5 rfl
    exact ⟨-1000000, x_traced, m_one, m_two, m_three, x_traced, by rw [if_neg s0, if_neg s1, if_neg s2, if_neg s3, if_neg s4, if_neg s5], by rw [if_neg hout], mkR _⟩
  · rw [if_neg hb]
    refine ⟨-1000000, x_traced, m_one, m_two, m_three, x_traced, rfl, ?_, mkR _⟩
    by_cases q : 0 ≤ p1.toInt ∧ p1.toInt ≤ 5
    · rw [if_pos q, if_neg hb]
    · rw [if_neg q]
